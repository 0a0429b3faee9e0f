/** The edges of what is seen in mind: no MINUTES, 240 of them, the last of them, the least and the greatest of what is tried. */
public final class MindEdgeTest {
    private static final String BUSY = "yl115100;yb402090;yt318012;ys230007;m2;u050;rr;n07;";

    public static void main(String[] args) {
        noMinutes();
        allMinutes();
        countedFromNow();
        begunInTheLastMinute();
        togetherOrNot();
        firstToStand();
        firstInTheLastMinute();
        bestRuleTies();
        eachRuleBest();
        bestHodEdges();
        bestBatchEdges();
        oneMateMore();
        answersBelowNothing();
        hoistEdges();
        aheadFull();
        aheadByEach();
        keepsEdges();
        teaEdges();
        teaWaits();
        faultEdges();
        wateredEdges();
        Check.end("MindEdgeTest");
    }

    /** "n MINUTES (0 .. 240)": with 0 nothing goes by, whatever is under way. */
    private static void noMinutes() {
        MuckForFour x = Check.told(BUSY);
        int muck = x.count(3);
        for (int i = 0; i < 4; i++) {
            muck += x.layer(i, 2);
            Check.due("stood(0, " + i + ")", x.stood(0, i), 0);
            Check.due("left(0, " + i + ", 0)", x.left(0, i, 0), x.layer(i, 2));
            Check.due("left(0, " + i + ", 1)", x.left(0, i, 1), x.layer(i, 3));
            Check.due("fault(0, " + i + ", 0)", x.fault(0, i, 0), 0);
            Check.due("fault(0, " + i + ", 1)", x.fault(0, i, 1), 0);
        }
        int[] due = {0, 0, 0, 0, 0, muck};
        for (int what = 0; what <= 5; what++) {
            Check.due("total(0, " + what + ")", x.total(0, what), due[what]);
        }
        Check.due("bestRule(0)", x.bestRule(0), 0);
        Check.due("bestHod(0)", x.bestHod(0), 10);
        Check.due("bestBatch(0)", x.bestBatch(0), 20);
        Check.due("mate(0)", x.mate(0), 0);
        Check.due("hoist(0)", x.hoist(0), 0);
        Check.due("ahead(0, 99)", x.ahead(0, 99), 0);
        Check.due("inStep(0)", x.inStep(0), 0);
        Check.due("keeps(0)", x.keeps(0), 4);
        Check.due("tea(0, 0)", x.tea(0, 0), 0);
        Check.due("tea(0, 1)", x.tea(0, 1), muck);
        Check.due("watered(0, 9, 0)", x.watered(0, 9, 0), 0);
        Check.due("watered(0, 9, 1)", x.watered(0, 9, 1), 0);
    }

    /** With 240: he lays one a MINUTE, and has always enough. */
    private static void allMinutes() {
        MuckForFour x = Check.told("yl160240;u120;h201;x01060;");
        Check.due("LAID in 239", x.total(239, 0), 239);
        Check.due("LAID in 240", x.total(240, 0), 240);
        Check.due("STOOD in 240", x.total(240, 1), 0);
        Check.due("stood(240, 0)", x.stood(240, 0), 0);
        Check.due("fault(240, 0, 0)", x.fault(240, 0, 0), 0);
        Check.due("LOST in 240", x.total(240, 4), 0);
        Check.due("inStep(240)", x.inStep(240), 0);
        Check.due("keeps(240)", x.keeps(240), 1);
        Check.due("emptyFirst(0)", x.emptyFirst(0), -9);
        Check.due("emptyFirst(1)", x.emptyFirst(1), -9);
        Check.due("mate(240)", x.mate(240), 0);
        Check.due("hoist(240)", x.hoist(240), 0);
        Check.due("ahead(240, 99)", x.ahead(240, 99), 0);
        Check.due("bestRule(240)", x.bestRule(240), 0);
        Check.due("watered(240, 9, 0)", x.watered(240, 9, 0), 0);
        Check.due("watered(240, 9, 1)", x.watered(240, 9, 1), 240 * 9 / 29);
        MuckForFour y = Check.told("yl100000;yl100000;yl100000;yl100000;");
        for (int n : new int[] {1, 2, 9}) {
            Check.due("all stand in " + n, y.total(n, 1), 4 * n);
            Check.due("at once in " + n, y.inStep(n), n);
        }
    }

    /** "from now": what was LAID, begun and STOOD before is not in it. */
    private static void countedFromNow() {
        MuckForFour x = Check.told("yl100240;u020;h209;");
        Check.due("TRIPS", x.total(1, 2), 1);
        x.go(1);
        Check.due("TRIPS begun before", x.total(1, 2), 0);
        Check.due("STOOD before", x.total(1, 1), 1);
        MuckForFour y = Check.told("yl100240;");
        Check.due("MIXES", y.total(1, 3), 1);
        y.go(1);
        Check.due("MIXES begun before", y.total(8, 3), 0);
        Check.due("what was mixed", y.total(8, 5), 60);
        MuckForFour z = Check.told("yl160240;");
        z.go(1);
        Check.due("LAID before", z.total(1, 0), 1);
    }

    /** What begins in the last of n MINUTES is begun; what comes at its end has come. */
    private static void begunInTheLastMinute() {
        MuckForFour x = Check.told("yl120240;u120;h202;");
        Check.due("TRIPS in 1", x.total(1, 2), 0);
        Check.due("TRIPS in 2", x.total(2, 2), 1);
        Check.due("MUCK in 2", x.total(2, 5), 100 + 18);
        Check.due("BOARD in 2", x.left(2, 0, 0), 18);
        Check.due("BOARD in 3", x.left(3, 0, 0), 37);
        Check.due("MUCK in 3", x.total(3, 5), 100 + 37);
        MuckForFour y = Check.told("yl120240;x02060;");
        Check.due("MIXES in 1", y.total(1, 3), 0);
        Check.due("MIXES in 2", y.total(2, 3), 1);
        Check.due("MUCK of it in 2", y.total(2, 5), 18);
        Check.due("MUCK of it in 3", y.total(3, 5), 17 + 60);
    }

    /** "IN STEP: in how many of n MINUTES two LAYERS or more stand at once." */
    private static void togetherOrNot() {
        // the first stands in MINUTE 0 alone, the second from 1 to 2
        MuckForFour x = Check.told("yl100240;yl160001;u020;h201;");
        Check.due("the first", x.stood(3, 0), 1);
        Check.due("the second", x.stood(3, 1), 2);
        Check.due("never at once", x.inStep(3), 0);
        Check.due("no LAYERS", new MuckForFour().inStep(240), 0);
        Check.due("one", Check.told("yl100000;").inStep(5), 0);
        Check.due("two", Check.told("yl100000;yl100000;").inStep(5), 5);
        Check.due("four", Check.told("yl100000;yl100000;yl100000;yl100000;").inStep(5), 5);
        Check.due("two of four", Check.told("yl160240;yl100000;yl160240;yl100000;").inStep(5), 5);
        Check.due("a TALKER while he talks", Check.told("yl100000;yt100000;").inStep(6), 4);
    }

    /** "the LAYER that first stands, of several the least; in which MINUTE from now". */
    private static void firstToStand() {
        String[] sites = {"yl100000;yl100000;", "yl160240;yl100000;yl100000;", "yl101240;yl100240;", "yl403003;yl400000;", "yt100000;yl160002;"};
        int[] who = {0, 1, 1, 0, 0};
        int[] when = {0, 0, 0, 0, 1};
        for (int i = 0; i < sites.length; i++) {
            MuckForFour x = Check.told(sites[i]);
            Check.due("who of " + sites[i], x.emptyFirst(0), who[i]);
            Check.due("when of " + sites[i], x.emptyFirst(1), when[i]);
        }
        Check.due("no LAYERS", new MuckForFour().emptyFirst(0), -9);
        Check.due("no LAYERS, when", new MuckForFour().emptyFirst(1), -9);
    }

    /** "(0 ..; -9 nobody in 240)": 239 is the last, and what comes behind it is not looked at. */
    private static void firstInTheLastMinute() {
        MuckForFour x = Check.told("yl125222;m1;h175;x07094;u047;");
        x.go(6);
        Check.due("nobody stands in 240", x.total(240, 1), 0);
        Check.due("who", x.emptyFirst(0), -9);
        Check.due("when", x.emptyFirst(1), -9);
        Check.due("keeps(240)", x.keeps(240), 1);
        x.go(1);
        Check.due("nobody stands in 239", x.total(239, 1), 0);
        Check.due("one in 240", x.total(240, 1), 1);
        Check.due("who in the last", x.emptyFirst(0), 0);
        Check.due("the last", x.emptyFirst(1), 239);
        x.go(1);
        Check.due("a MINUTE later", x.emptyFirst(1), 238);
    }

    /** "the most LAID, of alike ones the least STOOD, of several the first (0 .. 5)". */
    private static void bestRuleTies() {
        Check.due("no LAYERS", new MuckForFour().bestRule(240), 0);
        for (int rule = 0; rule <= 5; rule++) {
            MuckForFour x = Check.told("yl100240;u120;h201;");
            x.set(6, rule);
            Check.due("one LAYER: all RULES are alike", x.bestRule(60), 0);
        }
        Check.due("nothing comes in 3 MINUTES", Check.told("yl105240;yl104240;u120;").bestRule(3), 0);
        MuckForFour z = Check.told("yl100240;yl200240;h209;x20020;u020;");
        Check.due("LAID alike, FIRST has the least STOOD", z.bestRule(29), 0);
    }

    /** Each RULE as the best: of those that have the second LAYER served it is the first. */
    private static void eachRuleBest() {
        Check.due("by EMPTY, QUICK, SOON, LAST", Check.told("yl110240;yl408240;h209;u120;").bestRule(14), 1);
        Check.due("by QUICK, SOON, LAST", Check.told("yl110240;yl410240;h209;u120;").bestRule(14), 3);
        Check.due("by SOON, LAST", Check.told("yl409240;yb411240;h209;u120;").bestRule(10), 4);
        MuckForFour x = Check.told("yc400240;yb360240;h201;u120;n02;h209;u120;");
        x.put(0, 0, 0);
        x.put(1, 0, 7);
        Check.due("served latest", x.count(6), 0);
        Check.due("by ROUND, LAST", x.bestRule(10), 2);
        MuckForFour y = Check.told("yl200240;yl100240;h209;x20020;u020;");
        Check.due("by LAST: LAID alike, STOOD less", y.bestRule(29), 5);
        Check.due("nobody has laid yet: FIRST", y.bestRule(9), 0);
        Check.due("RULE is as it was", y.count(5), 0);
    }

    /** "BEST HOD (10 .. 40) .. with the most LAID in n MINUTES, of several the least." */
    private static void bestHodEdges() {
        MuckForFour x = Check.told("yl400240;h201;u040;x20020;");
        int[] laid = new int[41];
        int most = -1;
        int best = 0;
        for (int hod = 10; hod <= 40; hod++) {
            x.set(1, hod);
            laid[hod] = x.total(30, 0);
            if (laid[hod] > most) {
                most = laid[hod];
                best = hod;
            }
        }
        for (int hod : new int[] {10, 25, 40}) {
            x.set(1, hod);
            Check.due("bestHod(30) at " + hod, x.bestHod(30), best);
        }
        Check.due("no LAYERS: the least", new MuckForFour().bestHod(240), 10);
        Check.due("nothing LAID: the least", Check.told("yl100000;").bestHod(9), 10);
        // it is there at the end of MINUTE 8: of 4 a MINUTE 40 are laid in 19, 36 in 18, 8 in 11
        MuckForFour y = Check.told("yl400240;h409;u120;");
        Check.due("LAID by 40 in 19", y.total(19, 0), 40);
        Check.due("the greatest alone", y.bestHod(19), 40);
        Check.due("LAID by 36 or more in 18 is alike", y.bestHod(18), 36);
        Check.due("LAID by 10 or more in 11", y.bestHod(11), 10);
        Check.due("HOD is as it was", y.set(1, 40), 40);
        Check.due("an odd one: 33 in 20", Check.told("yl300240;h409;u120;").bestHod(20), 33);
    }

    /** "BATCH (20, 30, .., 120)". */
    private static void bestBatchEdges() {
        Check.due("no LAYERS: the least", new MuckForFour().bestBatch(240), 20);
        Check.due("nothing LAID: the least", Check.told("yl100000;").bestBatch(9), 20);
        // mixed in MINUTE 0, taken in 1, there in 2: of a HOD of 40 only BATCH 40 and more has enough
        MuckForFour x = Check.told("yl400240;h401;x01020;");
        Check.due("a tens that is enough", x.bestBatch(4), 40);
        Check.due("of 11, too", Check.told("yl400240;h111;x01020;").bestBatch(3), 20);
        Check.due("of 21: 30", Check.told("yl400240;h211;x01020;").bestBatch(3), 30);
        Check.due("of 31: 40", Check.told("yl400240;h311;x01020;").bestBatch(3), 40);
        MuckForFour y = Check.told("yl400240;h401;x20020;n01;");
        int most = -1;
        int best = 0;
        for (int batch = 20; batch <= 120; batch += 10) {
            y.set(4, batch);
            int laid = y.total(200, 0);
            if (laid > most) {
                most = laid;
                best = batch;
            }
        }
        Check.due("as by setting each", y.bestBatch(200), best);
        Check.due("BATCH is as it was", y.set(4, 60), 120);
    }

    /** "how many more are LAID with one MATE more (-3 there are 3)". */
    private static void oneMateMore() {
        MuckForFour x = Check.told("yl400000;u120;h201;");
        Check.due("of one", x.mate(240) >= 0 ? 1 : 0, 1);
        x.set(0, 2);
        int two = x.total(40, 0);
        int more = x.mate(40);
        x.set(0, 3);
        Check.due("of two", more, x.total(40, 0) - two);
        Check.due("of three", x.mate(40), 1000000003);
        Check.due("refused once", x.count(13), 1);
        Check.due("MATES are as they were", x.count(1), 3);
        Check.due("no LAYERS", new MuckForFour().mate(240), 0);
    }

    /** What is LAID more may be below 0, and alike a refusal's number, but is none. */
    private static void answersBelowNothing() {
        MuckForFour x = Check.told("yt101140;yl406226;m2;h241;x12041;u104;");
        int as = x.total(53, 0);
        Check.due("mate(53)", x.mate(53), -4);
        x.set(0, 3);
        Check.due("LAID by three", x.total(53, 0), as - 4);
        MuckForFour y = Check.told("yl450188;m2;h352;x11076;u055;");
        as = y.total(21, 0);
        Check.due("hoist(21)", y.hoist(21), -4);
        y.set(2, 1);
        Check.due("LAID with LADDER 1", y.total(21, 0), as - 4);
        MuckForFour z = Check.told("yb420037;m2;h381;x06020;u090;");
        Check.due("watered(14, 9, 0)", z.watered(14, 9, 0), -3);
        MuckForFour w = Check.told("yb100000;");
        Check.due("ahead(30, 15)", w.ahead(30, 15), -1);
        Check.due("none is counted", Check.refusals(x) + Check.refusals(y) + Check.refusals(z) + Check.refusals(w), 0);
    }

    /** "how many more, with LADDER 1": LADDER is 9 or 1. */
    private static void hoistEdges() {
        MuckForFour x = Check.told("yl100240;h209;u120;");
        Check.due("there in MINUTE 0 instead of 8", x.hoist(2), 1);
        Check.due("hoist(9)", x.hoist(9), 8);
        Check.due("hoist(10)", x.hoist(10), 8);
        Check.due("hoist(1)", x.hoist(1), 0);
        Check.due("with LADDER 1", Check.told("yl400240;h201;u120;").hoist(240), 0);
        Check.due("LADDER is as it was", x.set(2, 9), 9);
    }

    /** "with b bricks more (0 .. 99) on each STACK now (240 at most)". */
    private static void aheadFull() {
        // units enough, bricks at b: of 4 a MINUTE; HOD and LADDER keep bricks away for 9 MINUTES
        String site = "yl460000;h209;";
        int[] fewer = {0, 0, 0, 0, 1, 1, 1, 1, 2};
        for (int b = 0; b < fewer.length; b++) {
            Check.due("ahead(9, " + b + ")", Check.told(site).ahead(9, b), fewer[b]);
        }
        Check.due("ahead(9, 36): none stands", Check.told(site).ahead(9, 36), 9);
        Check.due("ahead(9, 99)", Check.told(site).ahead(9, 99), 9);
        MuckForFour x = Check.told("yl160239;yl160240;yl160141;yl160000;h109;");
        Check.due("ahead(1, 0)", x.ahead(1, 0), 0);
        Check.due("ahead(1, 1)", x.ahead(1, 1), 1);
        Check.due("ahead(1, 99)", x.ahead(1, 99), 1);
        Check.due("STACKS are as they were", x.layer(0, 3) + x.layer(1, 3) + x.layer(2, 3) + x.layer(3, 3), 620);
        Check.due("no LAYERS", new MuckForFour().ahead(240, 99), 0);
        for (int stack : new int[] {0, 20, 140, 141, 142, 239, 240}) {
            for (int b : new int[] {0, 1, 98, 99}) {
                MuckForFour y = Check.told("yl460240;yb230100;m2;h351;u120;x02120;");
                y.put(0, 1, stack);
                y.put(1, 1, stack);
                int ahead = y.ahead(240, b);
                int without = y.total(240, 1);
                y.put(0, 1, Math.min(240, stack + b));
                y.put(1, 1, Math.min(240, stack + b));
                Check.due("STACK " + stack + ", " + b + " ahead", ahead, without - y.total(240, 1));
            }
        }
    }

    private static void aheadByEach() {
        Check.due("one", Check.told("yl460000;h209;").ahead(2, 4), 1);
        Check.due("two", Check.told("yl460000;yl460000;h209;").ahead(2, 4), 2);
        Check.due("three", Check.told("yl460000;yl460000;yl460000;h209;").ahead(2, 4), 3);
        Check.due("four", Check.told("yl460000;yl460000;yl460000;yl460000;h209;").ahead(2, 4), 4);
    }

    /** "the most LAYERS (0 .. all; the first of them, the others gone, all MATES free) of whom nobody STANDS". */
    private static void keepsEdges() {
        Check.due("no LAYERS", new MuckForFour().keeps(240), 0);
        String full = "yl160240;";
        String none = "yl100000;";
        for (int layers = 1; layers <= 4; layers++) {
            Check.due("all of " + layers, Check.told(full.repeat(layers)).keeps(5), layers);
            Check.due("none of " + layers, Check.told(none + full.repeat(layers - 1)).keeps(1), 0);
            Check.due("all but the last of " + layers, Check.told(full.repeat(layers - 1) + none).keeps(1), layers - 1);
            Check.due("all of " + layers + " in 0", Check.told(none.repeat(layers)).keeps(0), layers);
        }
        Check.due("up to the first that stands", Check.told(full + none + full + full).keeps(1), 1);
        MuckForFour up = Check.told("yl101240;yl100240;u020;h202;rl;n01;");
        Check.due("who goes up to one that is gone is free", up.keeps(1), 0);
        MuckForFour mixes = Check.told("yl160240;yl100240;x20060;n01;");
        mixes.put(0, 0, 1);
        mixes.set(5, 120);
        mixes.set(2, 1);
        Check.due("of one, he is free at once", mixes.keeps(5), 1);
        Check.due("and mixes yet in truth", mixes.mates(0, 0), 19);
    }

    /** "the least k (0 .. n)". */
    private static void teaEdges() {
        // mixed in 0, taken in 1, laid in 2
        MuckForFour x = Check.told("yl400240;h101;x01020;");
        int[] k = {0, 0, 0, 1, 1};
        int[] left = {0, 0, 0, 16, 12};
        for (int n = 0; n < k.length; n++) {
            Check.due("tea(" + n + ", 0)", x.tea(n, 0), k[n]);
            Check.due("tea(" + n + ", 1)", x.tea(n, 1), left[n]);
        }
        Check.due("tea(60, 0), nobody needs to mix", Check.told("yl160240;u120;").tea(60, 0), 0);
        Check.due("no LAYERS", new MuckForFour().tea(60, 0), 0);
        MuckForFour y = Check.told("u120;");
        Check.due("no LAYERS: what is left", y.tea(60, 1), 120);
    }

    /** "nobody begins to MIX (he waits)": who mixes already goes on, and bricks are brought. */
    private static void teaWaits() {
        MuckForFour x = Check.told("yl100240;h101;x02020;n01;");
        Check.due("begun before: comes", x.tea(10, 0), 0);
        Check.due("what is left", x.tea(10, 1), 20 - 8);
        MuckForFour y = Check.told("yl160000;h201;");
        Check.due("bricks come without mixing", y.tea(20, 0), 0);
        Check.due("BOARD is left", y.tea(20, 1), 60 - 19);
        MuckForFour z = Check.told("yl100240;yl160000;h201;");
        Check.due("he waits for the first, and serves nobody else", z.tea(9, 0), 0);
        Check.due("so nothing is LAID", z.tea(9, 1), 60);
    }

    /** "too little mortar (0), too few bricks though mortar enough (1)". */
    private static void faultEdges() {
        int[][] due = {{4, 4, 0, 0}, {3, 4, 1, 0}, {4, 3, 0, 1}, {3, 3, 1, 0}, {0, 0, 1, 0}, {3, 0, 1, 0}, {0, 240, 1, 0}, {60, 0, 0, 1}, {60, 240, 0, 0}};
        for (int[] one : due) {
            MuckForFour x = Check.told("yl400000;");
            x.put(0, 0, one[0]);
            x.put(0, 1, one[1]);
            Check.due(one[0] + " and " + one[1] + ": no mortar", x.fault(1, 0, 0), one[2]);
            Check.due(one[0] + " and " + one[1] + ": no bricks", x.fault(1, 0, 1), one[3]);
        }
        int[][] wasters = {{8, 4, 0, 0}, {7, 4, 1, 0}, {8, 3, 0, 1}, {6, 3, 1, 0}};
        for (int[] one : wasters) {
            MuckForFour x = Check.told("yw400000;");
            x.put(0, 0, one[0]);
            x.put(0, 1, one[1]);
            Check.due("a WASTER of " + one[0] + " and " + one[1] + ": no mortar", x.fault(1, 0, 0), one[2]);
            Check.due("a WASTER of " + one[0] + " and " + one[1] + ": no bricks", x.fault(1, 0, 1), one[3]);
        }
        MuckForFour y = Check.told("yl100000;yl160000;yl160240;yt100000;");
        Check.due("of the first", y.fault(1, 0, 0), 1);
        Check.due("of the second", y.fault(1, 1, 1), 1);
        Check.due("of the third", y.fault(1, 2, 0) + y.fault(1, 2, 1), 0);
        Check.due("of one who talks", y.fault(1, 3, 0) + y.fault(1, 3, 1), 0);
    }

    /** "if each HOD of mortar has w units (0 .. 9) more in it by water: LAID more ..; weak ones .., cut." */
    private static void wateredEdges() {
        MuckForFour x = Check.told("yl400240;h101;u010;x20020;");
        for (int w = 0; w <= 9; w++) {
            Check.due("watered(8, " + w + ", 0)", x.watered(8, w, 0), w);
            Check.due("watered(8, " + w + ", 1)", x.watered(8, w, 1), (10 + w) * w / (10 + w));
            Check.due("watered(3, " + w + ", 0)", x.watered(3, w, 0), 0);
            Check.due("watered(3, " + w + ", 1)", x.watered(3, w, 1), 8 * w / (10 + w));
        }
        Check.due("watered(1, 9, 1)", x.watered(1, 9, 1), 0);
        Check.due("watered(2, 9, 1), 4 by 19 times 9, cut", x.watered(2, 9, 1), 1);
        // 24 less 4 and a HOD of 40 are 60: with water they are no more
        MuckForFour full = Check.told("yl424240;h401;u040;x20020;");
        Check.due("LAID of a full BOARD", full.total(18, 0), 64);
        Check.due("beyond a full BOARD", full.watered(18, 9, 0), 0);
        Check.due("below it by 1", Check.told("yl423240;h401;u040;x20020;").watered(18, 9, 0), 1);
        Check.due("bricks have no water", Check.told("yl160000;h201;").watered(20, 9, 0), 0);
        Check.due("no LAYERS", new MuckForFour().watered(240, 9, 1), 0);
    }
}
