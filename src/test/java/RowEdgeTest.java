import java.util.Arrays;

/** The edges of the ROW, of BADLY and JUDGED, of LOTS and their DRAWS, of THE IMAGE and of counts, each sentence by itself. */
public final class RowEdgeTest {
    public static void main(String[] args) {
        rowEmptyToFull();
        badlyEdges();
        badlyOfAFullRow();
        judgeEmptyRow();
        judgeEachPlace();
        judgeFullRow();
        judgeLastMinute();
        rowHasNoneThen();
        draws();
        drawnForEachLayer();
        lotsEdges();
        imageEdges();
        imageOfAll();
        countEdges();
        refusalsAreCounted();
        Check.end("RowEdgeTest");
    }

    /** "A number more of the ROW (0 .. 99): how many. -4; -6 (99; 20, too)." */
    private static void rowEmptyToFull() {
        MuckForFour x = new MuckForFour();
        Check.due("the ROW empty", x.count(7), 0);
        Check.due("row(-1)", x.row(-1), -4);
        Check.due("row(100)", x.row(100), -6);
        Check.due("the ROW empty yet", x.count(7), 0);
        Check.due("row(0)", x.row(0), 1);
        Check.due("row(99)", x.row(99), 2);
        for (int i = 3; i <= 19; i++) {
            x.row(0);
        }
        Check.due("in the ROW", x.count(7), 19);
        Check.due("the 20th", x.row(99), 20);
        Check.due("the 21st", x.row(99), -6);
        Check.due("the 21st below", x.row(-1), -4);
        Check.due("the 21st above", x.row(100), -6);
        Check.due("in the ROW then", x.count(7), 20);
        Check.due("refused -4", x.count(14), 2);
        Check.due("refused -6", x.count(16), 3);
    }

    private static void badly(int due, int... numbers) {
        MuckForFour x = new MuckForFour();
        Check.row(x, numbers);
        Check.due("badly() of " + Arrays.toString(numbers), x.badly(), due);
        Check.due("the ROW stays", x.count(7), numbers.length);
        Check.due("badly() again", x.badly(), due);
    }

    /** KINDS l, c, t, s use 1 unit a brick (bits 1, 2, 8, 32), w and b 2 (4, 16). */
    private static void badlyEdges() {
        badly(63);
        badly(63, 0, 0);
        badly(0, 0, 1);
        badly(0, 1, 0);
        badly(43, 1, 1);
        badly(20, 1, 2);
        badly(0, 1, 3);
        badly(0, 2, 1);
        badly(20, 2, 4);
        badly(0, 2, 3);
        badly(43, 99, 99);
        badly(0, 99, 98);
        badly(0, 98, 99);
        badly(20, 49, 98);
        badly(0, 49, 99);
        badly(0, 50, 99);
        badly(-3, 0);
        badly(-3, 1, 1, 1);
        badly(-3, 1, 2, 1, 2, 1);
        for (int bricks = 0; bricks <= 12; bricks++) {
            for (int used = 0; used <= 26; used++) {
                badly((used == bricks ? 43 : 0) + (used == 2 * bricks ? 20 : 0), bricks, used);
            }
        }
    }

    /** "KINDS .. by whose units all of it is so": one two that is not, wherever, is enough. */
    private static void badlyOfAFullRow() {
        for (int wrong = -1; wrong < 10; wrong++) {
            int[] ones = new int[20];
            int[] twos = new int[20];
            for (int i = 0; i < 10; i++) {
                ones[2 * i] = i + 1;
                ones[2 * i + 1] = i == wrong ? i + 2 : i + 1;
                twos[2 * i] = i + 1;
                twos[2 * i + 1] = i == wrong ? 2 * i + 1 : 2 * i + 2;
            }
            badly(wrong < 0 ? 43 : 0, ones);
            badly(wrong < 0 ? 20 : 0, twos);
        }
        badly(-3, 1, 1, 1, 1, 1, 1, 1, 1, 1, 1, 1, 1, 1, 1, 1, 1, 1, 1, 1);
    }

    private static void judge(MuckForFour x, int due, int... numbers) {
        Check.row(x, numbers);
        Check.due("judge() of " + Arrays.toString(numbers), x.judge(), due);
        Check.due("the ROW has none then", x.count(7), 0);
    }

    private static void judgeEmptyRow() {
        judge(new MuckForFour(), -9);
        judge(Check.told("yl100240;"), -9);
        judge(new MuckForFour(), 0, 0);
        judge(new MuckForFour(), 0, 9);
        judge(Check.told("yl100240;"), -9, 9);
        judge(Check.told("yl100240;"), 0, 0);
        judge(Check.told("yl100240;"), 0, 99);
        judge(Check.told("yl160240;yl160240;yl160240;yl100240;u120;"), -9, 3);
        judge(Check.told("yl160240;yl160240;yl160240;yl100240;u120;"), 0, 2);
    }

    /** "the first that is not so": at each place, and of two the first. */
    private static void judgeEachPlace() {
        int[] so = {9, 0, 0, 0, 9, 0, 0, 0};
        for (int wrong = 0; wrong < so.length; wrong++) {
            for (int other : new int[] {1, 8, 10, 99}) {
                int[] told = so.clone();
                told[wrong] = other;
                judge(Check.told("yl100240;"), wrong, told);
                told[so.length - 1] = other;
                judge(Check.told("yl100240;"), wrong, told);
            }
        }
        judge(Check.told("yl100240;"), -9, so);
    }

    /** "20 at most": with LADDER 1 and MUCK he serves each second MINUTE. */
    private static void judgeFullRow() {
        String site = "yl400240;yl460240;yl460240;yl400240;h101;x01120;u120;rr;";
        int[] so = begun(site);
        judge(Check.told(site), -9, so);
        for (int wrong = 0; wrong < 20; wrong++) {
            int[] told = so.clone();
            told[wrong] = 7;
            judge(Check.told(site), wrong, told);
        }
    }

    /** What is begun MINUTE by MINUTE, as seen of the only MATE: the first twenty. */
    private static int[] begun(String site) {
        MuckForFour x = Check.told(site);
        int[] all = new int[20];
        int count = 0;
        while (count < 20 && x.count(2) < 240) {
            if (x.total(1, 3) > 0) {
                all[count++] = 9;
                x.go(1);
            } else if (x.total(1, 2) > 0) {
                x.go(1);
                all[count++] = x.count(6);
            } else {
                x.go(1);
            }
        }
        Check.due("begun", count, 20);
        return all;
    }

    /** "from now in 240 MINUTES": what begins in the 239th is in it, what begins in the 240th is beyond. */
    private static void judgeLastMinute() {
        String site = "yl157181;m1;h109;x11065;u047;n01;";
        MuckForFour x = Check.told(site);
        Check.due("begun in 238", x.total(238, 2) + x.total(238, 3), 11);
        Check.due("begun in 239", x.total(239, 2) + x.total(239, 3), 12);
        int[] told = new int[12];
        MuckForFour y = Check.told(site);
        for (int count = 0; count < 12;) {
            boolean mixes = y.total(1, 3) > 0;
            boolean serves = y.total(1, 2) > 0;
            if (mixes || serves) {
                told[count++] = mixes ? 9 : 0;
            }
            y.go(1);
        }
        judge(x, -9, told);
        MuckForFour z = Check.told("yl157181;m1;h109;x11065;u047;");
        Check.due("a MINUTE earlier in 240", z.total(240, 2) + z.total(240, 3), 12);
        judge(z, -9, told);
        MuckForFour early = new MuckForFour();
        Check.tell(early, "yl158182;m1;h109;x11065;u047;");
        Check.due("one brick earlier in 240", early.total(240, 2) + early.total(240, 3), 11);
        judge(early, 11, told);
        early.go(1);
        judge(early, -9, told);
    }

    /** "(whichever it answers, the ROW has none then)". */
    private static void rowHasNoneThen() {
        MuckForFour x = Check.told("yl100240;");
        int[][] rows = {{9}, {0}, {9, 0, 1}, {1, 2, 3, 4, 5, 6, 7, 8, 9, 10, 11, 12, 13, 14, 15, 16, 17, 18, 19, 20}};
        for (int[] row : rows) {
            Check.row(x, row);
            x.judge();
            Check.due("in the ROW", x.count(7), 0);
            Check.due("a number more", x.row(4), 1);
            Check.due("badly()", x.badly(), -3);
            Check.due("the number before is gone", x.row(4), 2);
            Check.due("badly() of 4, 4", x.badly(), 43);
            x.judge();
        }
    }

    private static int stoodWith(String site, int... drawn) {
        MuckForFour x = Check.told(site);
        for (int i = 0; i < drawn.length; i++) {
            x.put(i / 2, i % 2, drawn[i]);
        }
        return x.total(60, 1);
    }

    /** The first four DRAWS below 61, 100, 61, 100 of some seeds, worked out aside. */
    private static final int[][] DRAWS = {
        {0, 16, 77, 23, 39}, {1, 52, 33, 43, 70}, {7, 24, 65, 17, 60}, {1000, 6, 89, 41, 13}, {-1, 41, 20, 55, 7},
        {Integer.MIN_VALUE, 16, 77, 23, 39}, {Integer.MAX_VALUE, 41, 20, 55, 7}, {123456789, 38, 4, 24, 51}};

    /** "z becomes z times 1664525 and 1013904223 (an int); (z without its sign's bit by 256, cut) modulo m." */
    private static void draws() {
        for (int[] d : DRAWS) {
            for (String site : new String[] {"yl100000;", "yb400000;h159;x20120;", "ys212034;m2;re;n09;"}) {
                MuckForFour x = Check.told(site);
                Check.due(site + " lots(1, " + d[0] + ")", x.lots(1, d[0]), stoodWith(site, d[1], d[2]));
                Check.due(site + " lots(2, " + d[0] + ")", x.lots(2, d[0]), stoodWith(site, d[1], d[2]) + stoodWith(site, d[3], d[4]));
            }
        }
    }

    /** "BOARD a DRAW below 61, STACK a DRAW below 100 of each LAYER": LAYER by LAYER. */
    private static void drawnForEachLayer() {
        String site = "yl400000;yw300000;h201;rs;";
        MuckForFour x = Check.told(site);
        for (int[] d : DRAWS) {
            Check.due("lots(1, " + d[0] + ")", x.lots(1, d[0]), stoodWith(site, d[1], d[2], d[3], d[4]));
        }
        // BOARD 16 lasts 4 MINUTES; he mixes twice, goes up in 40, and the 40 units of MINUTE 48 last 10 more
        MuckForFour y = Check.told("yl400000;h409;x20020;");
        Check.due("lots(1, 0) by hand", y.lots(1, 0), 60 - 4 - 10);
    }

    /** "n sites (1 .. 20)"; "from now": each begins as now is. */
    private static void lotsEdges() {
        MuckForFour x = Check.told("yl100000;yb300000;n07;");
        String before = Check.all(x);
        int one = x.lots(1, 7);
        int two = x.lots(2, 7);
        Check.due("lots(0, 7)", x.lots(0, 7), -4);
        Check.due("lots(-1, 7)", x.lots(-1, 7), -4);
        Check.due("lots(21, 7)", x.lots(21, 7), -6);
        Check.due("more sites, no less STOOD", one <= two ? 1 : 0, 1);
        Check.due("lots(19, 7) and one more", x.lots(19, 7) <= x.lots(20, 7) ? 1 : 0, 1);
        Check.due("as before", x.lots(1, 7), one);
        Check.due("nothing changes", Check.all(x).equals(before) ? 1 : 0, 1);
        Check.due("no LAYERS", new MuckForFour().lots(20, 7), 0);
    }

    /** "THE IMAGE is taken: MINUTE." "ON from it: MINUTE. -3 there is none." */
    private static void imageEdges() {
        MuckForFour x = new MuckForFour();
        Check.due("on() of none", x.on(), -3);
        Check.due("on() of none again", x.on(), -3);
        Check.due("refused", x.count(13), 2);
        Check.due("image() of a new one", x.image(), 0);
        Check.tell(x, "yl160240;n09;");
        Check.due("MINUTE", x.count(2), 9);
        Check.due("on()", x.on(), 0);
        Check.due("LAYERS", x.count(0), 0);
        Check.due("LAID", x.count(4), 0);
        Check.due("on() again", x.on(), 0);
        Check.tell(x, "yl160240;n09;");
        Check.due("image() anew", x.image(), 9);
        x.go(5);
        Check.due("on() of the new one", x.on(), 9);
        Check.due("LAID then", x.count(4), 9);
        x.go(60);
        Check.due("a FAULT takes no image", Check.tell(x, "n00;"), -2000);
        Check.due("on() yet", x.on(), 9);
        Check.due("refused then", x.count(13), 2);
    }

    /** "all that there is, but it, the ROW, letters, REFUSALS": a MATE on his way and one who mixes, too. */
    private static void imageOfAll() {
        MuckForFour x = Check.told("yl105240;yw460005;yt212100;m3;u030;h152;x17070;rl;n01;");
        String then = Check.all(x);
        x.image();
        x.row(3);
        x.letter('m');
        x.go(0);
        x.put(0, 0, 60);
        x.put(2, 1, 0);
        for (int what = 1; what <= 6; what++) {
            x.set(what, what == 4 ? 20 : what == 1 ? 10 : 1);
        }
        x.go(60);
        x.on();
        Check.due("the ROW is as it was ahead of on()", x.count(7), 1);
        Check.due("the letters, too", x.count(8), 1);
        Check.due("the refusals, too", x.count(14), 1);
        x.judge();
        x.site();
        Check.due("all else is as then", Check.all(x).equals(then) ? 1 : 0, 1);
        x.go(40);
        MuckForFour y = Check.told("yl105240;yw460005;yt212100;m3;u030;h152;x17070;rl;n01;");
        y.go(40);
        Check.due("and goes on as it would have", Check.all(x).equals(Check.all(y)) ? 1 : 0, 1);
        Check.due("whom he goes up to, too", x.on() == 1 && x.mates(0, 1) >= 0 ? 1 : 0, 1);
    }

    /** "-9 for another what." */
    private static void countEdges() {
        MuckForFour x = Check.told("yl100000;");
        for (int what : new int[] {Integer.MIN_VALUE, -17, -11, -1, 9, 10, 17, 18, 100, Integer.MAX_VALUE}) {
            Check.due("count(" + what + ")", x.count(what), -9);
        }
        for (int what = 11; what <= 16; what++) {
            Check.due("count(" + what + ")", x.count(what), 0);
        }
        Check.due("served latest: nobody", x.count(6), -9);
        x.set(5, 120);
        x.go(1);
        Check.due("served latest: LAYER 0", x.count(6), 0);
    }

    /** "nothing changes but how many there were": each by itself, of calls that tell them above 1000000000, too. */
    private static void refusalsAreCounted() {
        MuckForFour x = Check.told("yl100000;m3;");
        int[] due = new int[7];
        for (int i = 1; i <= 5; i++) {
            x.layer(1, 0);
            x.stood(0, 4);
            due[1] += 2;
            x.watered(0, 0, 2);
            x.layer(0, 6);
            x.tea(0, -1);
            due[2] += 3;
            x.mate(0);
            x.on();
            due[3] += 2;
            x.ahead(-1, 0);
            x.hoist(-1);
            x.go(0);
            x.mate(-1);
            due[4] += 4;
            x.ahead(0, 100);
            x.lots(21, 0);
            due[6] += 2;
            x.site();
            for (int kind = 1; kind <= 6; kind++) {
                Check.due("count(" + (10 + kind) + ")", x.count(10 + kind), due[kind]);
            }
        }
    }
}
