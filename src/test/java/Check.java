/** What the tests share: answers compared with what is due, sites told as text, and the exit code at the end. */
final class Check {
    private static int wrong = 0;

    private Check() {
    }

    static void due(String call, long got, long want) {
        if (got != want) {
            wrong++;
            System.out.println(call + " answered " + got + ", due is " + want);
        }
    }

    static void end(String name) {
        System.out.println(name + ": " + (wrong == 0 ? "all answers are as due" : wrong + " answers are not as due"));
        if (wrong != 0) {
            System.exit(1);
        }
    }

    /** Tells a text letter by letter, and answers what site() says of it. */
    static int tell(MuckForFour x, String text) {
        for (int i = 0; i < text.length(); i++) {
            x.letter(text.charAt(i));
        }
        return x.site();
    }

    /** A new object with a site that must be without fault. */
    static MuckForFour told(String text) {
        MuckForFour x = new MuckForFour();
        int statements = tell(x, text);
        if (statements < 1) {
            due("site() of " + text, statements, text.chars().filter(c -> c == ';').count());
        }
        return x;
    }

    static void row(MuckForFour x, int... numbers) {
        for (int v : numbers) {
            x.row(v);
        }
    }

    /** All that can be seen of the state, but the refusals. */
    static String seen(MuckForFour x) {
        StringBuilder all = new StringBuilder();
        for (int what = 0; what <= 8; what++) {
            all.append(x.count(what)).append(' ');
        }
        for (int i = 0; i < x.count(0); i++) {
            for (int what = 0; what <= 5; what++) {
                all.append(x.layer(i, what)).append(' ');
            }
        }
        for (int i = 0; i < x.count(1); i++) {
            for (int what = 0; what <= 2; what++) {
                all.append(x.mates(i, what)).append(' ');
            }
        }
        for (int what = 0; what <= 5; what++) {
            all.append(x.total(40, what)).append(' ');
        }
        return all.toString();
    }

    /** What can be seen of the state with all settings, without a change of it. */
    static String all(MuckForFour x) {
        StringBuilder all = new StringBuilder(seen(x));
        int[] least = {1, 10, 1, 1, 20};
        for (int what = 1; what < least.length; what++) {
            int was = x.set(what, least[what]);
            x.set(what, was);
            all.append(was).append(' ');
        }
        return all.toString();
    }

    /** What is seen when the row is looked at, and the image: both change the state. */
    static String end(MuckForFour x) {
        return x.badly() + " " + x.judge() + " " + x.on() + " " + all(x);
    }

    static int refusals(MuckForFour x) {
        int all = 0;
        for (int what = 11; what <= 16; what++) {
            all += x.count(what);
        }
        return all;
    }
}
