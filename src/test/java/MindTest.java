/** Promises 9 to 11, 18, 20 and 22: what is seen in mind, and that nothing changes by it. */
public final class MindTest {
    public static void main(String[] args) {
        totals();
        layersThen();
        standing();
        together();
        emptyFirst();
        faults();
        nothingChanges();
        Check.end("MindTest");
    }

    private static void totals(MuckForFour x, int n, int... due) {
        for (int what = 0; what < due.length; what++) {
            Check.due("total(" + n + ", " + what + ")", x.total(n, what), due[what]);
        }
    }

    private static void totals() {
        MuckForFour x = Check.told("yl100240;");
        totals(x, 0, 0, 0, 0, 0, 0, 0);
        totals(x, 1, 0, 1, 0, 1, 0, 0);
        totals(x, 9, 0, 9, 0, 1, 0, 60);
        totals(x, 10, 0, 10, 1, 1, 0, 40);
        totals(x, 12, 0, 12, 1, 1, 0, 60);
        totals(x, 15, 3, 12, 1, 1, 0, 57);
        totals(x, 16, 4, 12, 2, 1, 0, 36);
        totals(x, 33, 21, 12, 2, 1, 0, 39);
        x.go(12);
        totals(x, 3, 3, 0, 0, 0, 0, 57);
        MuckForFour y = Check.told("yl460000;");
        totals(y, 9, 20, 4, 2, 0, 0, 40);
        totals(Check.told("yl112240;yl313240;u005;"), 0, 0, 0, 0, 0, 0, 30);
    }

    private static void layersThen() {
        MuckForFour x = Check.told("yl100240;yl460000;m2;");
        Check.due("left(0, 1, 0)", x.left(0, 1, 0), 60);
        Check.due("left(0, 0, 1)", x.left(0, 0, 1), 240);
        Check.due("stood(0, 0)", x.stood(0, 0), 0);
        MuckForFour y = Check.told("yl460000;");
        Check.due("left(8, 0, 0)", y.left(8, 0, 0), 40);
        Check.due("left(8, 0, 1)", y.left(8, 0, 1), 0);
        Check.due("left(9, 0, 1)", y.left(9, 0, 1), 20);
        Check.due("stood(3, 0)", y.stood(3, 0), 3);
        Check.due("stood(8, 0)", y.stood(8, 0), 3);
        Check.due("stood(9, 0)", y.stood(9, 0), 4);
    }

    private static void standing() {
        MuckForFour x = Check.told("yl405240;yl160240;");
        Check.due("fewer than he would: he stands", x.stood(2, 0), 1);
        Check.due("but lays what there is", x.total(2, 0), 7);
        Check.due("the other does not", x.stood(9, 1), 0);
        MuckForFour y = Check.told("yw103240;");
        Check.due("one unit is not enough for a waster", y.total(2, 0), 1);
        Check.due("it is left", y.left(2, 0, 0), 1);
        Check.due("he stands", y.stood(2, 0), 1);
    }

    private static void together() {
        MuckForFour x = Check.told("yl100000;yl103240;yl160240;");
        Check.due("inStep(0)", x.inStep(0), 0);
        Check.due("inStep(3)", x.inStep(3), 0);
        Check.due("inStep(5)", x.inStep(5), 2);
        Check.due("inStep(5) again", x.inStep(5), 2);
        Check.due("three at once are one MINUTE", Check.told("yl100000;yl100000;yl100000;").inStep(9), 9);
        Check.due("one alone is none", Check.told("yl100000;").inStep(9), 0);
    }

    private static void emptyFirst() {
        MuckForFour x = Check.told("yl160240;yl202240;");
        Check.due("who", x.emptyFirst(0), 1);
        Check.due("when", x.emptyFirst(1), 1);
        x.go(1);
        Check.due("when from now", x.emptyFirst(1), 0);
        MuckForFour y = Check.told("yl160240;yl202240;yl202240;");
        Check.due("of several the least", y.emptyFirst(0), 1);
        MuckForFour z = Check.told("yl160240;u120;h201;");
        Check.due("nobody", z.emptyFirst(0), -9);
        Check.due("never", z.emptyFirst(1), -9);
        Check.due("no layers", new MuckForFour().emptyFirst(1), -9);
    }

    private static void faults(String text, int n, int mortar, int bricks) {
        MuckForFour x = Check.told(text);
        Check.due(text + " fault(" + n + ", 0, 0)", x.fault(n, 0, 0), mortar);
        Check.due(text + " fault(" + n + ", 0, 1)", x.fault(n, 0, 1), bricks);
        Check.due(text + " stood(" + n + ", 0)", x.stood(n, 0), mortar + bricks);
    }

    private static void faults() {
        faults("yl100240;", 15, 12, 0);
        faults("yl460000;", 9, 0, 4);
        faults("yl400000;", 5, 5, 0);
        faults("yl403001;", 1, 1, 0);
        faults("yl404003;", 1, 0, 1);
        faults("yw205001;", 1, 0, 1);
        faults("yw203000;", 1, 1, 0);
        faults("yl404004;", 1, 0, 0);
        faults("yl100240;", 0, 0, 0);
    }

    private static void nothingChanges() {
        MuckForFour x = Check.told("yl115100;yb402090;yt318012;m2;u050;rr;n07;");
        x.row(3);
        x.letter('m');
        String before = Check.seen(x);
        x.total(240, 0);
        x.stood(240, 0);
        x.left(240, 0, 0);
        x.bestRule(60);
        x.bestHod(60);
        x.bestBatch(60);
        x.mate(60);
        x.hoist(60);
        x.ahead(60, 50);
        x.inStep(60);
        x.keeps(60);
        x.emptyFirst(0);
        x.tea(60, 1);
        x.fault(60, 0, 0);
        x.watered(60, 5, 0);
        x.lots(3, 3);
        x.image();
        x.row(4);
        x.badly();
        x.judge();
        x.row(3);
        Check.due("all is as before", Check.seen(x).equals(before) ? 1 : 0, 1);
        int[] settings = {-3, 20, 3, 9, 60};
        for (int what = 0; what < settings.length; what++) {
            Check.due("setting " + what, x.set(what, what == 0 ? 1 : settings[what]), settings[what]);
        }
    }
}
