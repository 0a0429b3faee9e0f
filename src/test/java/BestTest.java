/** Promises 12 to 17, 19, 21 and 23: what would be best, or come of something more. */
public final class BestTest {
    public static void main(String[] args) {
        bestRule();
        bestHod();
        bestBatch();
        oneMateMore();
        hoist();
        ahead();
        keeps();
        tea();
        watered();
        Check.end("BestTest");
    }

    private static void bestRule() {
        MuckForFour x = Check.told("yl110240;yl410240;h209;u120;");
        Check.due("bestRule(0)", x.bestRule(0), 0);
        Check.due("bestRule(9): all are alike", x.bestRule(9), 0);
        Check.due("bestRule(10): the quick one first", x.bestRule(10), 3);
        Check.due("LAID by the first", x.total(14, 0), 24);
        x.set(6, 3);
        Check.due("LAID by the best", x.total(14, 0), 40);
        Check.due("bestRule(14), whichever is set", x.bestRule(14), 3);
        MuckForFour y = Check.told("yl200240;yl100240;h209;x20020;u020;");
        Check.due("LAID by FIRST", y.total(29, 0), 20);
        Check.due("STOOD by FIRST", y.total(29, 1), 48);
        Check.due("bestRule(29): LAID alike, least STOOD", y.bestRule(29), 5);
        y.set(6, 5);
        Check.due("LAID by LAST", y.total(29, 0), 20);
        Check.due("STOOD by LAST", y.total(29, 1), 38);
    }

    private static void bestHod() {
        MuckForFour x = Check.told("yl100240;h409;u120;");
        Check.due("bestHod(0)", x.bestHod(0), 10);
        Check.due("bestHod(30)", x.bestHod(30), 18);
        Check.due("bestHod(26)", x.bestHod(26), 17);
        x.set(1, 17);
        Check.due("LAID with 17", x.total(30, 0), 20);
        x.set(1, 18);
        Check.due("LAID with 18", x.total(30, 0), 21);
        MuckForFour y = Check.told("yl400240;h209;u120;n01;");
        Check.due("the greatest", y.bestHod(30), 40);
    }

    private static void bestBatch() {
        MuckForFour x = Check.told("yl100240;h401;");
        Check.due("bestBatch(0)", x.bestBatch(0), 20);
        Check.due("bestBatch(10)", x.bestBatch(10), 20);
        Check.due("bestBatch(21)", x.bestBatch(21), 40);
        x.set(4, 30);
        Check.due("LAID with 30", x.total(21, 0), 2);
        x.set(4, 40);
        Check.due("LAID with 40", x.total(21, 0), 11);
        MuckForFour y = Check.told("yl400240;h401;x20020;m3;");
        Check.due("tens alone", y.bestBatch(240) % 10, 0);
    }

    private static void oneMateMore() {
        MuckForFour x = Check.told("yl400000;u120;");
        Check.due("mate(0)", x.mate(0), 0);
        Check.due("mate(6)", x.mate(6), 0);
        Check.due("mate(7)", x.mate(7), 4);
        Check.due("mate(8)", x.mate(8), 8);
        x.go(3);
        Check.due("mate(5), while one is busy", x.mate(5), 8);
        Check.due("none is wanted", Check.told("yl160240;u120;").mate(9), 0);
        MuckForFour y = Check.told("m3;");
        Check.due("there are 3", y.mate(5), 1000000003);
        Check.due("mate(-1) with 3", y.mate(-1), 1000000004);
        Check.due("mate(241) with 3", y.mate(241), 1000000006);
    }

    private static void hoist() {
        MuckForFour x = Check.told("yl400000;u120;");
        Check.due("hoist(0)", x.hoist(0), 0);
        Check.due("hoist(3)", x.hoist(3), 0);
        Check.due("hoist(4)", x.hoist(4), 4);
        Check.due("hoist(8)", x.hoist(8), 20);
        x.set(2, 1);
        Check.due("there is one", x.hoist(200), 0);
    }

    private static void ahead() {
        MuckForFour x = Check.told("yl400000;u120;");
        Check.due("ahead(8, 0)", x.ahead(8, 0), 0);
        Check.due("ahead(8, 4)", x.ahead(8, 4), 1);
        Check.due("ahead(8, 20)", x.ahead(8, 20), 5);
        Check.due("of both", Check.told("yl460000;yl460000;").ahead(3, 99), 6);
        MuckForFour full = Check.told("yl460240;yl460240;yl460240;yl460240;m3;h401;x01120;");
        Check.due("240 at most", full.ahead(240, 99), 0);
        Check.due("of a row of mixings: more bricks, then more MINUTES stood", Check.told("yb100000;").ahead(30, 15), -1);
    }

    private static void keeps() {
        MuckForFour x = Check.told("yl160240;yl160240;yl100000;");
        Check.due("keeps(0)", x.keeps(0), 3);
        Check.due("keeps(5)", x.keeps(5), 2);
        Check.due("nobody", Check.told("yl100000;yl160240;").keeps(1), 0);
        MuckForFour busy = Check.told("yl100240;x20020;n01;");
        busy.put(0, 0, 3);
        busy.set(5, 120);
        Check.due("while he mixes one stands", busy.total(10, 1), 7);
        Check.due("all MATES are free", busy.keeps(10), 1);
        MuckForFour more = Check.told("yl440240;yl119240;yl100000;h201;x09060;");
        Check.due("the most, though fewer would stand", more.keeps(14), 2);
        Check.due("the first alone would stand", Check.told("yl440240;h201;x09060;").keeps(14), 0);
    }

    private static void tea() {
        MuckForFour x = Check.told("yl100240;h101;x02020;");
        int[][] due = {{0, 0, 0}, {3, 0, 0}, {4, 1, 19}, {10, 1, 13}, {20, 1, 3}, {30, 15, 13}};
        for (int[] one : due) {
            Check.due("tea(" + one[0] + ", 0)", x.tea(one[0], 0), one[1]);
            Check.due("tea(" + one[0] + ", 1)", x.tea(one[0], 1), one[2]);
        }
        Check.due("with enough mixed: none", Check.told("yl100240;u120;").tea(60, 0), 0);
    }

    private static void watered() {
        MuckForFour x = Check.told("yl400240;h201;x20020;u020;");
        Check.due("watered(8, 5, 0)", x.watered(8, 5, 0), 5);
        Check.due("watered(8, 5, 1)", x.watered(8, 5, 1), 5);
        Check.due("watered(4, 5, 0)", x.watered(4, 5, 0), 0);
        Check.due("watered(4, 5, 1)", x.watered(4, 5, 1), 2);
        Check.due("watered(8, 9, 0)", x.watered(8, 9, 0), 8);
        Check.due("watered(8, 9, 1)", x.watered(8, 9, 1), 28 * 9 / 29);
        Check.due("watered(8, 0, 0)", x.watered(8, 0, 0), 0);
        Check.due("watered(8, 0, 1)", x.watered(8, 0, 1), 0);
        Check.due("no water in bricks", Check.told("yl460000;h201;").watered(20, 9, 0), 0);
    }
}
