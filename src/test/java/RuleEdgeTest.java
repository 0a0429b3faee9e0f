/** The edges of RULES, each sentence by itself: ties, one more or less, the ROUND that comes round. */
public final class RuleEdgeTest {
    public static void main(String[] args) {
        first();
        empty();
        round();
        roundAmongThoseInNeed();
        roundByWhomIsServed();
        quick();
        soon();
        soonByKinds();
        last();
        ruleSet();
        Check.end("RuleEdgeTest");
    }

    private static void served(String rule, String layers, int due) {
        MuckForFour x = Check.told("u120;r" + rule + ";" + layers);
        x.go(1);
        Check.due("served by " + rule + " of " + layers, x.count(6), due);
    }

    /** "f FIRST: the least." */
    private static void first() {
        served("f", "yl100000;yl100000;yl100000;yl100000;", 0);
        served("f", "yl160240;yl100000;yl100000;yl100000;", 1);
        served("f", "yl160240;yl160240;yl160240;yl119240;", 3);
        served("f", "yl160240;yl160240;yl160240;yl160240;", -9);
    }

    /** "e EMPTY: .. the least of BOARD and STACK (the lesser of both), of several the first." */
    private static void empty() {
        served("e", "yl115240;yl114240;", 1);
        served("e", "yl114240;yl114240;", 0);
        served("e", "yl114240;yl115240;", 0);
        served("e", "yl160014;yl160013;", 1);
        served("e", "yl114240;yl160013;", 1);
        served("e", "yl160014;yl114240;", 0);
        served("e", "yl115015;yl114060;yl160014;yl115014;", 1);
        served("e", "yl400019;yl118018;yl100240;yl160000;", 0);
        served("e", "yl101240;yl160001;yl100240;yl160000;", 2);
    }

    /** "r ROUND: .. the next behind the one served latest, round (0 first)": each LAYER as the latest in turn. */
    private static void round() {
        int[] due = {0, 1, 2, 3, 0, 1, 2, 3, 0};
        MuckForFour x = Check.told("yl100000;yl100000;yl100000;yl100000;u120;h101;rr;");
        for (int trip = 0; trip < due.length; trip++) {
            x.go(2);
            Check.due("trip " + trip, x.count(6), due[trip]);
            renew(x);
        }
    }

    private static void renew(MuckForFour x) {
        x.set(5, 120);
        for (int i = 0; i < x.count(0); i++) {
            x.put(i, 0, 0);
            x.put(i, 1, 0);
        }
    }

    private static MuckForFour servedLatest(int layer) {
        MuckForFour x = Check.told("yl160240;yl160240;yl160240;yl160240;u120;h101;rr;");
        x.put(layer, 0, 0);
        x.go(2);
        Check.due("served latest", x.count(6), layer);
        for (int i = 0; i < 4; i++) {
            x.put(i, 0, 60);
        }
        return x;
    }

    /** Every LAYER as the latest, with every set of those in need: the next behind it, round, itself at last. */
    private static void roundAmongThoseInNeed() {
        for (int latest = 0; latest < 4; latest++) {
            for (int need = 0; need < 16; need++) {
                MuckForFour x = servedLatest(latest);
                int due = latest;
                for (int step = 4; step >= 1; step--) {
                    int layer = (latest + step) % 4;
                    if ((need >> layer & 1) == 1) {
                        x.put(layer, 0, 9);
                        due = layer;
                    }
                }
                Check.due("TRIPS to " + need + " behind " + latest, x.total(1, 2), need == 0 ? 0 : 1);
                x.go(1);
                Check.due("served of " + need + " behind " + latest, x.count(6), due);
            }
        }
    }

    /** The one served latest is so by other RULES, and while nobody is served by mixing. */
    private static void roundByWhomIsServed() {
        MuckForFour x = Check.told("yl100000;yl100000;yl100000;u120;h101;rl;n02;");
        Check.due("LAST served", x.count(6), 2);
        renew(x);
        x.set(6, 2);
        x.go(2);
        Check.due("ROUND behind it", x.count(6), 0);
        renew(x);
        x.set(5, 0);
        x.set(3, 2);
        x.go(2);
        Check.due("mixing serves nobody", x.count(6), 0);
        renew(x);
        x.go(2);
        Check.due("so the next is 1", x.count(6), 1);
    }

    /** "q QUICK: .. the greatest PACE, of several the first": PACE, not bricks. */
    private static void quick() {
        served("q", "yl300000;yl400000;", 1);
        served("q", "yl400000;yl300000;", 0);
        served("q", "yl400000;yl400000;", 0);
        served("q", "yl300000;yc400000;", 1);
        served("q", "yb300000;yl400000;", 1);
        served("q", "ys300000;yb300000;", 0);
        served("q", "yl100000;yl260240;yl100000;yl160240;", 0);
        served("q", "yl100000;yl200000;yl300000;yl400000;", 3);
    }

    /** "s SOON: .. its BOARD (by bricks a MINUTE times units, cut) and STACK (by bricks, cut; the lesser of both) last". */
    private static void soon() {
        served("s", "yl106240;yl105240;", 1);
        served("s", "yl105240;yl105240;", 0);
        served("s", "yl311240;yl309240;", 0);
        served("s", "yl312240;yl311240;", 1);
        served("s", "yl160006;yl160005;", 1);
        served("s", "yl360011;yl360009;", 0);
        served("s", "yl360012;yl360011;", 1);
        served("s", "yl106240;yl160005;", 1);
        served("s", "yl160006;yl105240;", 1);
        served("s", "yl160006;yl106240;", 0);
        served("s", "yl100000;yl403003;", 0);
        served("s", "yl104004;yl403003;", 1);
    }

    /** By what each KIND lays and takes; "(a TALKER as if it never talked)". */
    private static void soonByKinds() {
        served("s", "yl410240;yw410240;", 1);
        served("s", "yw216240;yl208240;", 0);
        served("s", "yw217240;yl208240;", 0);
        served("s", "yl208240;yw215240;", 1);
        served("s", "yl460012;yw460012;", 0);
        served("s", "yc412240;yl208240;", 1);
        served("s", "yc312240;yl212240;", 0);
        served("s", "ys412240;yl312240;", 0);
        served("s", "yl312240;ys411240;", 1);
        served("s", "yl212240;yb212240;", 1);
        served("s", "yb218240;yl206240;", 0);
        served("s", "yb217240;yl207240;", 0);
        served("s", "yt312240;yl312240;", 0);
        served("s", "yl312240;yt312240;", 0);
        served("s", "yl312240;yt311240;", 1);
    }

    /** "l LAST: .. the greatest number." */
    private static void last() {
        served("l", "yl100000;yl100000;yl100000;yl100000;", 3);
        served("l", "yl100000;yl100000;yl100000;yl160240;", 2);
        served("l", "yl119240;yl160240;yl160240;yl160240;", 0);
        served("l", "yl160240;", -9);
    }

    /** "the KIND of RULE (6: 0 f, 1 e, 2 r, 3 q, 4 s, 5 l)": of one site each serves by itself. */
    private static void ruleSet() {
        int[] due = {0, 3, 1, 2, 1, 3};
        for (int rule = 0; rule <= 5; rule++) {
            MuckForFour x = Check.told("yl112012;ys314015;yc413013;yl111011;h151;u120;");
            if (rule == 2) {
                x.put(0, 0, 0);
                x.go(2);
                x.put(0, 0, 12);
                x.put(0, 1, 12);
            }
            Check.due("set(6, " + rule + ")", x.set(6, rule), 0);
            x.go(1);
            Check.due("RULE " + rule, x.count(6), due[rule]);
            Check.due("count(5)", x.count(5), rule);
        }
    }
}
