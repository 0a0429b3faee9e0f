import java.util.Random;

/** Runs of calls by lot on MuckForFour and on Model: every answer must be alike. Promises 1 to 30. */
public final class ModelTest {
    private static final int RUNS = 400;
    private static final int CALLS = 512;

    private final Random lot;
    private final MuckForFour x = new MuckForFour();
    private final Model m = new Model();
    private final int run;

    private ModelTest(int run) {
        this.run = run;
        this.lot = new Random(run);
    }

    public static void main(String[] args) {
        for (int run = 0; run < RUNS; run++) {
            new ModelTest(run).calls();
        }
        Check.end("ModelTest");
    }

    private void calls() {
        int done = 0;
        while (done < CALLS) {
            done += lot.nextInt(12) == 0 ? site() : call(lot.nextInt(34));
        }
    }

    private void due(String call, int got, int want) {
        Check.due("run " + run + ": " + call, got, want);
    }

    /** Mostly in range, at times at the edge or beyond it. */
    private int near(int least, int greatest) {
        switch (lot.nextInt(24)) {
            case 0: return least - 1;
            case 1: return greatest + 1;
            case 2: return least;
            case 3: return greatest;
            case 4: return lot.nextInt(60) == 0 ? lot.nextInt() : least;
            default: return least + lot.nextInt(greatest - least + 1);
        }
    }

    private int what(int greatest) {
        return lot.nextInt(20) == 0 ? (lot.nextBoolean() ? -1 : greatest + 1) : lot.nextInt(greatest + 1);
    }

    private int layerNumber() {
        return lot.nextInt(15) == 0 ? near(0, 4) : lot.nextInt(Math.max(1, x.count(0)));
    }

    private int minutes() {
        return lot.nextInt(3) == 0 ? near(0, 240) : near(0, 40);
    }

    private String digits(int v, int width) {
        String text = "00000" + v;
        return text.substring(text.length() - width);
    }

    private int oneOf(String letters) {
        return letters.charAt(lot.nextInt(letters.length()));
    }

    private String statement() {
        switch (lot.nextInt(8)) {
            case 0: return "m" + digits(1 + lot.nextInt(lot.nextInt(9) == 0 ? 5 : 3), 1) + ";";
            case 1: return "h" + digits(10 + lot.nextInt(lot.nextInt(9) == 0 ? 50 : 31), 2) + digits(1 + lot.nextInt(9), 1) + ";";
            case 2: return "x" + digits(1 + lot.nextInt(20), 2) + digits(20 + lot.nextInt(lot.nextInt(9) == 0 ? 120 : 101), 3) + ";";
            case 3: return "u" + digits(lot.nextInt(lot.nextInt(9) == 0 ? 130 : 121), 3) + ";";
            case 4: return "r" + (char) oneOf("ferqsl") + ";";
            case 5: return "n" + digits(1 + lot.nextInt(lot.nextInt(9) == 0 ? 62 : 20), 2) + ";";
            default:
                return "y" + (char) oneOf("lcwtbs") + digits(1 + lot.nextInt(lot.nextInt(9) == 0 ? 6 : 4), 1)
                    + digits(lot.nextInt(lot.nextInt(9) == 0 ? 70 : 61), 2) + digits(lot.nextInt(lot.nextInt(3) == 0 ? 250 : 80), 3) + ";";
        }
    }

    private int site() {
        StringBuilder text = new StringBuilder();
        for (int i = 1 + lot.nextInt(4); i > 0; i--) {
            text.append(statement());
        }
        if (lot.nextInt(6) == 0) {
            text.setCharAt(lot.nextInt(text.length()), (char) (lot.nextBoolean() ? oneOf("ymhxurn;lcwtbsf059") : lot.nextInt(256)));
        }
        if (lot.nextInt(12) == 0) {
            text.setLength(lot.nextInt(text.length()));
        }
        for (int i = 0; i < text.length(); i++) {
            due("letter(" + (int) text.charAt(i) + ")", x.letter(text.charAt(i)), m.letter(text.charAt(i)));
        }
        due("site() of " + text, x.site(), m.site());
        return text.length() + 1;
    }

    private int call(int which) {
        int n = minutes();
        int layer = layerNumber();
        int two = what(1);
        int w = near(0, 9);
        int v;
        switch (which) {
            case 0: v = near(0, 255); due("letter(" + v + ")", x.letter(v), m.letter(v)); break;
            case 1: due("site()", x.site(), m.site()); break;
            case 2: v = what(5); due("layer(" + layer + ", " + v + ")", x.layer(layer, v), m.layer(layer, v)); break;
            case 3: v = near(0, two == 0 ? 60 : 240);
                due("put(" + layer + ", " + two + ", " + v + ")", x.put(layer, two, v), m.put(layer, two, v)); break;
            case 4: case 5: set(); break;
            case 6: case 7: v = lot.nextInt(3) == 0 ? near(1, 60) : near(1, 9); due("go(" + v + ")", x.go(v), m.go(v)); break;
            case 8: case 9: v = what(2); layer = what(2);
                due("mates(" + layer + ", " + v + ")", x.mates(layer, v), m.mates(layer, v)); break;
            case 10: case 11: v = what(5); due("total(" + n + ", " + v + ")", x.total(n, v), m.total(n, v)); break;
            case 12: due("stood(" + n + ", " + layer + ")", x.stood(n, layer), m.stood(n, layer)); break;
            case 13: due("left(" + n + ", " + layer + ", " + two + ")", x.left(n, layer, two), m.left(n, layer, two)); break;
            case 14: due("bestRule(" + n + ")", x.bestRule(n), m.bestRule(n)); break;
            case 15: due("bestHod(" + n + ")", x.bestHod(n), m.bestHod(n)); break;
            case 16: due("bestBatch(" + n + ")", x.bestBatch(n), m.bestBatch(n)); break;
            case 17: due("mate(" + n + ")", x.mate(n), m.mate(n)); break;
            case 18: due("hoist(" + n + ")", x.hoist(n), m.hoist(n)); break;
            case 19: v = near(0, 99); due("ahead(" + n + ", " + v + ")", x.ahead(n, v), m.ahead(n, v)); break;
            case 20: due("inStep(" + n + ")", x.inStep(n), m.inStep(n)); break;
            case 21: due("keeps(" + n + ")", x.keeps(n), m.keeps(n)); break;
            default: callMore(which, layer, two); break;
            case 22: due("watered(" + n + ", " + w + ", " + two + ")", x.watered(n, w, two), m.watered(n, w, two)); break;
        }
        return 2;
    }

    private void set() {
        int what = what(6);
        int least = what < 0 || what > 6 ? 0 : Model.LEAST[what];
        int greatest = what < 0 || what > 6 ? 9 : Model.GREATEST[what];
        int v = near(least, greatest);
        due("set(" + what + ", " + v + ")", x.set(what, v), m.set(what, v));
    }

    private void callMore(int which, int layer, int two) {
        int n = minutes();
        int v;
        switch (which) {
            case 23: due("emptyFirst(" + two + ")", x.emptyFirst(two), m.emptyFirst(two)); break;
            case 24: v = near(0, 60); due("tea(" + v + ", " + two + ")", x.tea(v, two), m.tea(v, two)); break;
            case 25: due("fault(" + n + ", " + layer + ", " + two + ")", x.fault(n, layer, two), m.fault(n, layer, two)); break;
            case 26: due("badly()", x.badly(), m.badly()); break;
            case 27: rows(); break;
            case 28: due("judge()", x.judge(), m.judge()); break;
            case 29: v = near(1, 20); n = lot.nextInt(); due("lots(" + v + ", " + n + ")", x.lots(v, n), m.lots(v, n)); break;
            case 30: due("image()", x.image(), m.image()); break;
            case 31: due("on()", x.on(), m.on()); break;
            default: v = near(-1, 18); due("count(" + v + ")", x.count(v), m.count(v)); break;
        }
    }

    /** Numbers for the row: by lot, twos that fit units, or trips as they would begin. */
    private void rows() {
        int kind = lot.nextInt(3);
        for (int i = 0; i < 1 + lot.nextInt(4); i++) {
            int first = near(0, kind == 0 ? 99 : 30);
            if (kind == 2) {
                Model.World w = m.now.copy().go(240);
                int at = m.row.size();
                int v = at < w.begun.size() ? w.begun.get(at) : 3;
                due("row(" + v + ")", x.row(v), m.row(v));
                continue;
            }
            due("row(" + first + ")", x.row(first), m.row(first));
            if (kind == 1) {
                int second = first * (1 + lot.nextInt(2));
                due("row(" + second + ")", x.row(second), m.row(second));
            }
        }
    }
}
