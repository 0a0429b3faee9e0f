import java.util.function.ToIntFunction;

/** Every refusal of every call, in the order in which the document tells them; nothing changes but how many there were. */
public final class RefusalTest {
    private static final int MIN = Integer.MIN_VALUE;
    private static final int MAX = Integer.MAX_VALUE;

    public static void main(String[] args) {
        ofLayers();
        ofSettingsAndMinutes();
        inMind();
        ofLayersInMind();
        toldAbove();
        ofRowAndLots();
        Check.end("RefusalTest");
    }

    /** A site with two layers, two mates of whom one is busy, a row of three and two letters. */
    private static MuckForFour site() {
        MuckForFour x = Check.told("yl115100;yb460240;m2;u050;rr;n01;");
        Check.row(x, 1, 2, 3);
        x.letter('m');
        x.letter('1');
        return x;
    }

    private static void refused(String call, int refusal, ToIntFunction<MuckForFour> asked) {
        refused(call, refusal, refusal, site(), asked);
    }

    private static void above(String call, int refusal, ToIntFunction<MuckForFour> asked) {
        refused(call, refusal, 1000000000 - refusal, site(), asked);
    }

    private static void refused(String call, int refusal, int due, MuckForFour x, ToIntFunction<MuckForFour> asked) {
        String before = Check.seen(x);
        for (int times = 1; times <= 2; times++) {
            Check.due(call, asked.applyAsInt(x), due);
            for (int kind = 1; kind <= 6; kind++) {
                Check.due(call + ": count(" + (10 + kind) + ")", x.count(10 + kind), kind == -refusal ? times : 0);
            }
        }
        Check.due(call + ": nothing changes", Check.seen(x).equals(before) ? 1 : 0, 1);
    }

    private static void ofLayers() {
        refused("letter(-1)", -4, x -> x.letter(-1));
        refused("letter(256)", -6, x -> x.letter(256));
        refused("layer(-1, 0)", -1, x -> x.layer(-1, 0));
        refused("layer(2, 0)", -1, x -> x.layer(2, 0));
        refused("layer(2, 9)", -1, x -> x.layer(2, 9));
        refused("layer(MAX, 0)", -1, x -> x.layer(MAX, 0));
        refused("layer(MIN, 0)", -1, x -> x.layer(MIN, 0));
        refused("layer(1, 6)", -2, x -> x.layer(1, 6));
        refused("layer(1, -1)", -2, x -> x.layer(1, -1));
        refused("put(2, 7, -1)", -1, x -> x.put(2, 7, -1));
        refused("put(-1, 0, 0)", -1, x -> x.put(-1, 0, 0));
        refused("put(1, 2, -1)", -2, x -> x.put(1, 2, -1));
        refused("put(1, -1, 999)", -2, x -> x.put(1, -1, 999));
        refused("put(1, 0, -1)", -4, x -> x.put(1, 0, -1));
        refused("put(1, 1, -1)", -4, x -> x.put(1, 1, -1));
        refused("put(1, 0, 61)", -6, x -> x.put(1, 0, 61));
        refused("put(1, 1, 241)", -6, x -> x.put(1, 1, 241));
    }

    private static void ofSettingsAndMinutes() {
        refused("set(7, -1)", -2, x -> x.set(7, -1));
        refused("set(-1, 99)", -2, x -> x.set(-1, 99));
        refused("set(MAX, 1)", -2, x -> x.set(MAX, 1));
        refused("set(0, 2)", -3, x -> x.set(0, 2));
        refused("set(0, 0)", -3, x -> x.set(0, 0));
        refused("set(0, 4)", -3, x -> x.set(0, 4));
        int[] least = {1, 10, 1, 1, 20, 0, 0};
        int[] greatest = {3, 40, 9, 20, 120, 120, 5};
        for (int i = 1; i < 7; i++) {
            int what = i;
            refused("set(" + what + ", below)", -4, x -> x.set(what, least[what] - 1));
            refused("set(" + what + ", MIN)", -4, x -> x.set(what, MIN));
            refused("set(" + what + ", above)", -6, x -> x.set(what, greatest[what] + 1));
            refused("set(" + what + ", MAX)", -6, x -> x.set(what, MAX));
        }
        refused("set(0, 0), all free", -4, -4, Check.told("yl160240;"), x -> x.set(0, 0));
        refused("set(0, 4), all free", -6, -6, Check.told("yl160240;"), x -> x.set(0, 4));
        refused("go(0)", -4, x -> x.go(0));
        refused("go(61)", -6, x -> x.go(61));
        refused("mates(2, 0)", -1, x -> x.mates(2, 0));
        refused("mates(-1, 5)", -1, x -> x.mates(-1, 5));
        refused("mates(1, 3)", -2, x -> x.mates(1, 3));
        refused("mates(1, -1)", -2, x -> x.mates(1, -1));
    }

    private static void inMind() {
        for (int n : new int[] {-1, MIN, 241, MAX}) {
            int due = n < 0 ? -4 : -6;
            refused("total(" + n + ", 9)", due, x -> x.total(n, 9));
            refused("stood(" + n + ", 9)", due, x -> x.stood(n, 9));
            refused("left(" + n + ", 9, 9)", due, x -> x.left(n, 9, 9));
            refused("bestRule(" + n + ")", due, x -> x.bestRule(n));
            refused("bestHod(" + n + ")", due, x -> x.bestHod(n));
            refused("bestBatch(" + n + ")", due, x -> x.bestBatch(n));
            refused("inStep(" + n + ")", due, x -> x.inStep(n));
            refused("keeps(" + n + ")", due, x -> x.keeps(n));
            refused("fault(" + n + ", 9, 9)", due, x -> x.fault(n, 9, 9));
            above("mate(" + n + ")", due, x -> x.mate(n));
            above("hoist(" + n + ")", due, x -> x.hoist(n));
        }
        refused("total(0, 6)", -2, x -> x.total(0, 6));
        refused("total(240, -1)", -2, x -> x.total(240, -1));
        refused("emptyFirst(2)", -2, x -> x.emptyFirst(2));
        refused("emptyFirst(-1)", -2, x -> x.emptyFirst(-1));
        refused("tea(-1, 2)", -4, x -> x.tea(-1, 2));
        refused("tea(61, 2)", -6, x -> x.tea(61, 2));
        refused("tea(60, 2)", -2, x -> x.tea(60, 2));
        refused("tea(60, -1)", -2, x -> x.tea(60, -1));
    }

    private static void ofLayersInMind() {
        refused("stood(0, 2)", -1, x -> x.stood(0, 2));
        refused("stood(240, -1)", -1, x -> x.stood(240, -1));
        refused("left(0, 2, 2)", -1, x -> x.left(0, 2, 2));
        refused("left(0, 1, 2)", -2, x -> x.left(0, 1, 2));
        refused("left(0, 1, -1)", -2, x -> x.left(0, 1, -1));
        refused("fault(0, 2, 2)", -1, x -> x.fault(0, 2, 2));
        refused("fault(0, 1, 2)", -2, x -> x.fault(0, 1, 2));
        refused("fault(0, 1, -1)", -2, x -> x.fault(0, 1, -1));
    }

    private static void toldAbove() {
        MuckForFour three = Check.told("yl160240;m3;");
        refused("mate(9) with 3", -3, 1000000003, three, x -> x.mate(9));
        above("ahead(-1, 100)", -4, x -> x.ahead(-1, 100));
        above("ahead(241, -1)", -4, x -> x.ahead(241, -1));
        above("ahead(241, 0)", -6, x -> x.ahead(241, 0));
        above("ahead(0, 100)", -6, x -> x.ahead(0, 100));
        above("ahead(MIN, MIN)", -4, x -> x.ahead(MIN, MIN));
        above("watered(-1, 10, 2)", -4, x -> x.watered(-1, 10, 2));
        above("watered(241, -1, 2)", -4, x -> x.watered(241, -1, 2));
        above("watered(241, 0, 2)", -6, x -> x.watered(241, 0, 2));
        above("watered(0, 10, 2)", -6, x -> x.watered(0, 10, 2));
        above("watered(0, 9, 2)", -2, x -> x.watered(0, 9, 2));
        above("watered(0, 0, -1)", -2, x -> x.watered(0, 0, -1));
    }

    private static void ofRowAndLots() {
        refused("badly()", -3, x -> x.badly());
        refused("row(-1)", -4, x -> x.row(-1));
        refused("row(100)", -6, x -> x.row(100));
        refused("lots(0, 0)", -4, x -> x.lots(0, 0));
        refused("lots(MIN, 0)", -4, x -> x.lots(MIN, 0));
        refused("lots(21, 0)", -6, x -> x.lots(21, 0));
        refused("on()", -3, x -> x.on());
    }
}
