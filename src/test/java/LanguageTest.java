import java.lang.management.ManagementFactory;
import java.lang.reflect.Constructor;
import java.lang.reflect.Field;
import java.lang.reflect.Method;
import java.lang.reflect.Modifier;
import java.nio.charset.StandardCharsets;
import java.nio.file.Files;
import java.nio.file.Path;
import java.util.Set;
import java.util.TreeSet;
import java.util.regex.Matcher;
import java.util.regex.Pattern;

/** What can be looked at by machine of LANGUAGE.md: the face, words that may not stand there, lengths, objects made. */
public final class LanguageTest {
    private static final String[] FACE = {"letter 1", "site 0", "layer 2", "put 3", "set 2", "go 1", "mates 2", "total 2", "stood 2",
        "left 3", "bestRule 1", "bestHod 1", "bestBatch 1", "mate 1", "hoist 1", "ahead 2", "inStep 1", "keeps 1", "emptyFirst 1",
        "tea 2", "fault 3", "watered 3", "badly 0", "row 1", "judge 0", "lots 2", "image 0", "on 0", "count 1"};

    public static void main(String[] args) throws Exception {
        face();
        nested();
        words();
        noObjectsByCalls();
        Check.end("LanguageTest");
    }

    private static void face() {
        Set<String> due = new TreeSet<>(Set.of(FACE));
        Set<String> found = new TreeSet<>();
        for (Method one : MuckForFour.class.getDeclaredMethods()) {
            if (Modifier.isPublic(one.getModifiers())) {
                found.add(one.getName() + " " + one.getParameterCount());
                Check.due(one.getName() + " answers int", one.getReturnType() == int.class ? 1 : 0, 1);
            } else {
                Check.due(one.getName() + " is private", Modifier.isPrivate(one.getModifiers()) ? 1 : 0, 1);
            }
        }
        Check.due("the face is " + due + ", found " + found, found.equals(due) ? 1 : 0, 1);
        for (Field one : MuckForFour.class.getDeclaredFields()) {
            Check.due(one.getName() + " is private", Modifier.isPrivate(one.getModifiers()) ? 1 : 0, 1);
        }
        for (Constructor<?> one : MuckForFour.class.getDeclaredConstructors()) {
            Check.due("the constructor is public", Modifier.isPublic(one.getModifiers()) ? 1 : 0, 1);
        }
        Check.due("the class is final", Modifier.isFinal(MuckForFour.class.getModifiers()) ? 1 : 0, 1);
    }

    private static void nested() {
        Class<?>[] inside = MuckForFour.class.getDeclaredClasses();
        Check.due("twelve classes at most", inside.length <= 11 ? 1 : 0, 1);
        for (Class<?> one : inside) {
            Check.due(one + " is static", Modifier.isStatic(one.getModifiers()) ? 1 : 0, 1);
            int fields = 0;
            for (Field field : one.getDeclaredFields()) {
                boolean isStatic = Modifier.isStatic(field.getModifiers());
                Check.due(field + " is final if static", isStatic && !Modifier.isFinal(field.getModifiers()) ? 1 : 0, 0);
                fields += isStatic ? 0 : 1;
            }
            Check.due(one + " has twenty fields at most", fields <= 20 ? 1 : 0, 1);
            for (Method method : one.getDeclaredMethods()) {
                for (String name : FACE) {
                    Check.due(method + " has a name of the face", name.startsWith(method.getName() + " ") ? 1 : 0, 0);
                }
            }
        }
    }

    private static void words() throws Exception {
        String text = Files.readString(Path.of("src/main/java/MuckForFour.java"), StandardCharsets.US_ASCII);
        String code = text.replaceAll("(?s)/\\*.*?\\*/", "").replaceAll("//[^\n]*", "").replaceAll("\"[^\"]*\"", "\"\"");
        String banned = "\\b(throw|throws|try|catch|finally|synchronized|assert|import|package|native|volatile|transient|System|Thread|Random"
            + "|Object|hashCode|toString|var|\\w+Exact)\\b|->|::|@";
        Matcher found = Pattern.compile(banned).matcher(code);
        while (found.find()) {
            Check.due("the word " + found.group(), 1, 0);
        }
        String[] lines = text.split("\n");
        int start = 0;
        for (int i = 0; i < lines.length; i++) {
            if (lines[i].matches("(    ){1,2}[\\w\\[\\] ]+\\(.*\\{") && !lines[i].contains(" class ")) {
                start = i;
            }
            if (lines[i].matches("(    ){1,2}}")) {
                Check.due("sixty lines at most, up to line " + (i + 1), start > 0 && i - start > 60 ? 1 : 0, 0);
                start = 0;
            }
        }
    }

    /** The room is for all calls of a run: rows are made once, in the constructor. */
    private static void noObjectsByCalls() {
        com.sun.management.ThreadMXBean bean = (com.sun.management.ThreadMXBean) ManagementFactory.getThreadMXBean();
        MuckForFour x = Check.told("yl115100;yb402090;yt318012;m2;u050;rs;n07;");
        everyCall(x);
        long before = bean.getCurrentThreadAllocatedBytes();
        long none = bean.getCurrentThreadAllocatedBytes() - before;
        before = bean.getCurrentThreadAllocatedBytes();
        for (int i = 0; i < 10; i++) {
            everyCall(x);
        }
        long made = bean.getCurrentThreadAllocatedBytes() - before - none;
        Check.due("bytes made by calls are few: " + made, made < 4096 ? 1 : 0, 1);
    }

    private static void everyCall(MuckForFour x) {
        x.letter('m');
        x.letter('1');
        x.letter(';');
        x.site();
        x.put(0, 0, 5);
        x.set(5, 40);
        x.go(60);
        x.mates(0, 0);
        x.total(240, 0);
        x.stood(240, 0);
        x.left(240, 0, 0);
        x.bestRule(240);
        x.bestHod(240);
        x.bestBatch(240);
        x.mate(240);
        x.hoist(240);
        x.ahead(240, 9);
        x.inStep(240);
        x.keeps(240);
        x.emptyFirst(0);
        x.tea(60, 0);
        x.fault(240, 0, 0);
        x.watered(240, 9, 0);
        x.row(1);
        x.row(2);
        x.badly();
        x.judge();
        x.lots(20, 3);
        x.image();
        x.on();
        x.count(0);
    }
}
