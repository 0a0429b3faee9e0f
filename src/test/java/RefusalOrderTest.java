import java.util.ArrayList;
import java.util.List;

/**
 * Every call with every mix of numbers below, at, between and above its bounds, in several states: the refusal is
 * the first that fits in the document's order, it alone is counted, and nothing else changes.
 */
public final class RefusalOrderTest {
    private static final int MIN = Integer.MIN_VALUE;
    private static final int MAX = Integer.MAX_VALUE;

    interface Asked {
        int of(MuckForFour x, int[] a);
    }

    interface Fits {
        boolean by(State s, int[] a);
    }

    /** A call with the numbers that it is asked with, and its refusals in the document's order. */
    private static final class Call {
        private final String name;
        private final int[][] numbers;
        private final Asked asked;
        private boolean isToldAbove = false;
        private final List<Integer> refusals = new ArrayList<>();
        private final List<Fits> fits = new ArrayList<>();

        Call(String name, Asked asked, int[]... numbers) {
            this.name = name;
            this.asked = asked;
            this.numbers = numbers;
        }

        Call no(int refusal, Fits if_) {
            refusals.add(refusal);
            fits.add(if_);
            return this;
        }

        Call toldAbove() {
            isToldAbove = true;
            return this;
        }

        int due(State s, int[] a) {
            for (int i = 0; i < refusals.size(); i++) {
                if (fits.get(i).by(s, a)) {
                    return refusals.get(i);
                }
            }
            return 0;
        }
    }

    /** How an object comes to be, and what of it the refusals look at. */
    private enum State {
        NEW(0, 1, false, 0, 0, 0, false),
        FOUR(4, 3, true, 1, 3, 2, true),
        FULL(2, 2, false, 9, 20, 96, true),
        LATE(1, 3, false, 9999, 2, 0, false),
        NEARLY_LATE(1, 1, true, 9950, 19, 95, true);

        final int layers;
        final int mates;
        final boolean isBusy;
        final int minute;
        final int inRow;
        final int letters;
        final boolean hasImage;

        State(int layers, int mates, boolean isBusy, int minute, int inRow, int letters, boolean hasImage) {
            this.layers = layers;
            this.mates = mates;
            this.isBusy = isBusy;
            this.minute = minute;
            this.inRow = inRow;
            this.letters = letters;
            this.hasImage = hasImage;
        }

        MuckForFour make() {
            MuckForFour x = new MuckForFour();
            if (this == FOUR) {
                Check.tell(x, "yl115100;yb402090;yt318012;ys260240;m3;u050;rr;n01;");
            }
            if (this == FULL) {
                Check.tell(x, "yw160240;yc460240;m2;rs;n09;");
            }
            if (this == LATE) {
                pass(x, 9999);
                Check.tell(x, "yl360240;h409;m3;");
            }
            if (this == NEARLY_LATE) {
                pass(x, 9949);
                Check.tell(x, "yl300200;n01;");
            }
            if (hasImage) {
                x.image();
            }
            for (int i = 0; i < inRow; i++) {
                x.row(i % 2 == 0 ? 9 : 18);
            }
            for (int i = 0; i < letters; i++) {
                x.letter('n');
            }
            return x;
        }

        private static void pass(MuckForFour x, int minutes) {
            for (int left = minutes; left > 0; left -= 60) {
                x.go(Math.min(left, 60));
            }
        }
    }

    private static int[] around(int least, int greatest) {
        return new int[] {MIN, -1000000000, least - 1, least, (least + greatest) / 2, greatest, greatest + 1, MAX};
    }

    private static final int[] MINUTES = {MIN, -1, 0, 7, 240, 241, MAX};
    private static final int[] LAYERS = {MIN, -9, -1, 0, 1, 2, 3, 4, 9, MAX};
    private static final int[] TWO = {MIN, -1, 0, 1, 2, MAX};
    private static final int[] SIX = {MIN, -1, 0, 1, 2, 3, 4, 5, 6, MAX};

    public static void main(String[] args) {
        for (Call call : calls()) {
            for (State s : State.values()) {
                all(call, s, new int[call.numbers.length], 0);
            }
        }
        Check.end("RefusalOrderTest");
    }

    private static void all(Call call, State s, int[] a, int at) {
        if (at == a.length) {
            one(call, s, a);
            return;
        }
        for (int v : call.numbers[at]) {
            a[at] = v;
            all(call, s, a, at + 1);
        }
    }

    private static void one(Call call, State s, int[] a) {
        MuckForFour x = s.make();
        String name = s + " " + call.name + java.util.Arrays.toString(a);
        int due = call.due(s, a);
        int got = call.asked.of(x, a);
        for (int kind = 1; kind <= 6; kind++) {
            Check.due(name + " count(" + (10 + kind) + ")", x.count(10 + kind), kind == -due ? 1 : 0);
        }
        if (due != 0) {
            Check.due(name, got, call.isToldAbove ? 1000000000 - due : due);
            MuckForFour y = s.make();
            Check.due(name + " changes nothing", Check.all(x).equals(Check.all(y)) ? 1 : 0, 1);
            Check.due(name + " changes neither row nor image", Check.end(x).equals(Check.end(y)) ? 1 : 0, 1);
        }
    }

    private static Fits below(int at, int least) {
        return (s, a) -> a[at] < least;
    }

    private static Fits above(int at, int greatest) {
        return (s, a) -> a[at] > greatest;
    }

    private static Fits noLayer(int at) {
        return (s, a) -> a[at] < 0 || a[at] >= s.layers;
    }

    private static Fits other(int at, int greatest) {
        return (s, a) -> a[at] < 0 || a[at] > greatest;
    }

    private static Call inMind(String name, Asked asked, int[]... numbers) {
        return new Call(name, asked, numbers).no(-4, below(0, 0)).no(-6, above(0, 240));
    }

    private static List<Call> calls() {
        List<Call> all = new ArrayList<>();
        ofState(all);
        set(all);
        ofMind(all);
        toldAbove(all);
        ofRowLotsAndImage(all);
        return all;
    }

    private static void ofState(List<Call> all) {
        all.add(new Call("letter", (x, a) -> x.letter(a[0]), around(0, 255)).no(-4, below(0, 0))
            .no(-6, (s, a) -> a[0] > 255 || s.letters == 96));
        all.add(new Call("layer", (x, a) -> x.layer(a[0], a[1]), LAYERS, SIX).no(-1, noLayer(0)).no(-2, other(1, 5)));
        all.add(new Call("put", (x, a) -> x.put(a[0], a[1], a[2]), LAYERS, TWO, new int[] {MIN, -1, 0, 60, 61, 240, 241, MAX})
            .no(-1, noLayer(0)).no(-2, other(1, 1)).no(-4, below(2, 0)).no(-6, (s, a) -> a[2] > (a[1] == 0 ? 60 : 240)));
        all.add(new Call("go", (x, a) -> x.go(a[0]), new int[] {MIN, -1, 0, 1, 49, 50, 60, 61, MAX}).no(-4, below(0, 1))
            .no(-6, (s, a) -> a[0] > 60 || s.minute + a[0] > 9999));
        all.add(new Call("mates", (x, a) -> x.mates(a[0], a[1]), LAYERS, new int[] {MIN, -1, 0, 1, 2, 3, MAX})
            .no(-1, (s, a) -> a[0] < 0 || a[0] >= s.mates).no(-2, other(1, 2)));
        all.add(new Call("site", (x, a) -> x.site()));
    }

    private static void set(List<Call> all) {
        int[] least = {1, 10, 1, 1, 20, 0, 0};
        int[] greatest = {3, 40, 9, 20, 120, 120, 5};
        int[] whats = {MIN, -1, 0, 1, 2, 3, 4, 5, 6, 7, 8, MAX};
        int[] numbers = {MIN, -1, 0, 1, 2, 3, 4, 5, 6, 9, 10, 19, 20, 21, 40, 41, 119, 120, 121, MAX};
        all.add(new Call("set", (x, a) -> x.set(a[0], a[1]), whats, numbers).no(-2, other(0, 6)).no(-3, (s, a) -> a[0] == 0 && s.isBusy)
            .no(-4, (s, a) -> a[1] < least[a[0]]).no(-6, (s, a) -> a[1] > greatest[a[0]]));
    }

    private static void ofMind(List<Call> all) {
        all.add(inMind("total", (x, a) -> x.total(a[0], a[1]), MINUTES, SIX).no(-2, other(1, 5)));
        all.add(inMind("stood", (x, a) -> x.stood(a[0], a[1]), MINUTES, LAYERS).no(-1, noLayer(1)));
        all.add(inMind("left", (x, a) -> x.left(a[0], a[1], a[2]), MINUTES, LAYERS, TWO).no(-1, noLayer(1)).no(-2, other(2, 1)));
        all.add(inMind("fault", (x, a) -> x.fault(a[0], a[1], a[2]), MINUTES, LAYERS, TWO).no(-1, noLayer(1)).no(-2, other(2, 1)));
        all.add(inMind("bestRule", (x, a) -> x.bestRule(a[0]), MINUTES));
        all.add(inMind("bestHod", (x, a) -> x.bestHod(a[0]), MINUTES));
        all.add(inMind("bestBatch", (x, a) -> x.bestBatch(a[0]), MINUTES));
        all.add(inMind("inStep", (x, a) -> x.inStep(a[0]), MINUTES));
        all.add(inMind("keeps", (x, a) -> x.keeps(a[0]), MINUTES));
        all.add(new Call("emptyFirst", (x, a) -> x.emptyFirst(a[0]), TWO).no(-2, other(0, 1)));
        all.add(new Call("tea", (x, a) -> x.tea(a[0], a[1]), around(0, 60), TWO).no(-4, below(0, 0)).no(-6, above(0, 60)).no(-2, other(1, 1)));
    }

    private static void toldAbove(List<Call> all) {
        all.add(inMind("mate", (x, a) -> x.mate(a[0]), MINUTES).no(-3, (s, a) -> s.mates == 3).toldAbove());
        all.add(inMind("hoist", (x, a) -> x.hoist(a[0]), MINUTES).toldAbove());
        all.add(new Call("ahead", (x, a) -> x.ahead(a[0], a[1]), MINUTES, around(0, 99)).no(-4, below(0, 0)).no(-4, below(1, 0))
            .no(-6, above(0, 240)).no(-6, above(1, 99)).toldAbove());
        all.add(new Call("watered", (x, a) -> x.watered(a[0], a[1], a[2]), MINUTES, around(0, 9), TWO).no(-4, below(0, 0)).no(-4, below(1, 0))
            .no(-6, above(0, 240)).no(-6, above(1, 9)).no(-2, other(2, 1)).toldAbove());
    }

    private static void ofRowLotsAndImage(List<Call> all) {
        all.add(new Call("row", (x, a) -> x.row(a[0]), around(0, 99)).no(-4, below(0, 0)).no(-6, (s, a) -> a[0] > 99 || s.inRow == 20));
        all.add(new Call("badly", (x, a) -> x.badly()).no(-3, (s, a) -> s.inRow % 2 == 1));
        all.add(new Call("judge", (x, a) -> x.judge()));
        all.add(new Call("lots", (x, a) -> x.lots(a[0], a[1]), around(1, 20), new int[] {MIN, -1, 0, 7, MAX}).no(-4, below(0, 1)).no(-6, above(0, 20)));
        all.add(new Call("image", (x, a) -> x.image()));
        all.add(new Call("on", (x, a) -> x.on()).no(-3, (s, a) -> !s.hasImage));
        all.add(new Call("count", (x, a) -> x.count(a[0]), new int[] {MIN, -1, 0, 8, 9, 10, 11, 16, 17, MAX}));
    }
}
