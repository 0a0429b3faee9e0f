/** Promises 1 to 3: a new object, letters, and the site that they become. */
public final class SiteTest {
    private static final String LAYER = "yl100000;";

    public static void main(String[] args) {
        newObject();
        letters();
        statements();
        shapes();
        ranges();
        behindAllAhead();
        lastMinute();
        nothingWithAFault();
        Check.end("SiteTest");
    }

    private static void newObject() {
        MuckForFour x = new MuckForFour();
        int[] due = {0, 1, 0, 0, 0, 0, -9, 0, 0, -9, -9, 0, 0, 0, 0, 0, 0, -9};
        for (int what = 0; what < due.length; what++) {
            Check.due("new: count(" + what + ")", x.count(what), due[what]);
        }
        int[] settings = {1, 20, 3, 9, 60, 0, 0};
        for (int what = 0; what < settings.length; what++) {
            Check.due("new: set(" + what + ")", x.set(what, settings[what]), settings[what]);
        }
        Check.due("new: mates(0, 0)", x.mates(0, 0), 0);
        Check.due("new: mates(0, 1)", x.mates(0, 1), -9);
        Check.due("new: mates(0, 2)", x.mates(0, 2), 0);
        Check.due("new: total(240, 5)", x.total(240, 5), 0);
    }

    private static void letters() {
        MuckForFour x = new MuckForFour();
        Check.due("letter(0)", x.letter(0), 1);
        Check.due("letter(255)", x.letter(255), 2);
        Check.due("letter(-1)", x.letter(-1), -4);
        Check.due("letter(256)", x.letter(256), -6);
        Check.due("letter(least)", x.letter(Integer.MIN_VALUE), -4);
        Check.due("letter(greatest)", x.letter(Integer.MAX_VALUE), -6);
        Check.due("letters", x.count(8), 2);
        for (int i = 3; i <= 96; i++) {
            Check.due("letter " + i, x.letter('m'), i);
        }
        Check.due("letter 97", x.letter('m'), -6);
        Check.due("letter(-1) when full", x.letter(-1), -4);
        Check.due("letters when full", x.count(8), 96);
        Check.due("site() of wrong letters", x.site(), -1000);
        Check.due("letters behind a fault", x.count(8), 0);
        Check.due("letter again", x.letter('m'), 1);
    }

    private static void statements() {
        MuckForFour x = new MuckForFour();
        Check.due("site", Check.tell(x, "yb434210;m3;h159;x11095;u081;rq;"), 6);
        Check.due("letters behind it", x.count(8), 0);
        int[] layer = {4, 4, 34, 210};
        for (int what = 0; what < layer.length; what++) {
            Check.due("layer(0, " + what + ")", x.layer(0, what), layer[what]);
        }
        int[] settings = {3, 15, 9, 11, 95, 81, 3};
        for (int what = 0; what < settings.length; what++) {
            Check.due("set(" + what + ")", x.set(what, settings[what]), settings[what]);
        }
        Check.due("one more", Check.tell(x, "yt100000;"), 1);
        Check.due("layers", x.count(0), 2);
        Check.due("its kind", x.layer(1, 0), 3);
        for (int i = 0; i < 6; i++) {
            Check.due("kind " + i, Check.told("y" + "lcwtbs".charAt(i) + "100000;").layer(0, 0), i);
            Check.due("rule " + i, Check.told("r" + "ferqsl".charAt(i) + ";").count(5), i);
        }
        Check.due("a whole text", Check.tell(new MuckForFour(), "m1;".repeat(32)), 32);
        MuckForFour y = Check.told("yl103240;n02;n03;");
        Check.due("minutes go by", y.count(2), 5);
        Check.due("laid by them", y.count(4), 3);
    }

    private static void fault(String text, int due) {
        MuckForFour x = new MuckForFour();
        Check.due("site() of '" + text + "'", Check.tell(x, text), due);
        Check.due("letters behind '" + text + "'", x.count(8), 0);
        Check.due("refusals behind '" + text + "'", Check.refusals(x), 0);
    }

    private static void shapes() {
        fault("", -1000);
        fault("z", -1000);
        fault(";", -1000);
        fault("M1;", -1000);
        fault("1", -1000);
        fault("y", -1001);
        fault("yl", -1002);
        fault("yL", -1001);
        fault("yll", -1002);
        fault("yl1000000;", -1008);
        fault("yl100000", -1008);
        fault("yl10000;", -1007);
        fault("m", -1001);
        fault("m1", -1002);
        fault("m12;", -1002);
        fault("m1;m", -1004);
        fault("m1;;", -1003);
        fault("h201", -1004);
        fault("h20;", -1003);
        fault("x0906;", -1005);
        fault("u000:", -1004);
        fault("u0/0;", -1002);
        fault("rf;rx;", -1004);
        fault("ry", -1001);
        fault("n1;", -1002);
        fault("n001;", -1003);
        fault("m" + (char) 0 + ";", -1001);
        fault("m" + (char) 255 + ";", -1001);
        fault("m1; m1;", -1003);
        fault("m4;z", -1003);
        fault("m0;m", -1004);
    }

    private static void ranges() {
        fault("yl000000;", -2000);
        fault("yl500000;", -2000);
        fault("yl161000;", -2000);
        fault("yl100241;", -2000);
        fault("m0;", -2000);
        fault("m4;", -2000);
        fault("h091;", -2000);
        fault("h411;", -2000);
        fault("h200;", -2000);
        fault("x00060;", -2000);
        fault("x21060;", -2000);
        fault("x09019;", -2000);
        fault("x09121;", -2000);
        fault("u121;", -2000);
        fault("n00;", -2000);
        fault("n61;", -2000);
        fault("m1;m3;u120;u999;", -2011);
        String[] edges = {"yl100000;", "yl460240;", "m1;", "m3;", "h101;", "h409;", "x01020;", "x20120;", "u000;", "u120;", "n01;", "n60;"};
        for (String text : edges) {
            fault(text, 1);
        }
    }

    private static void behindAllAhead() {
        fault(LAYER.repeat(4), 4);
        fault(LAYER.repeat(5), -2036);
        fault(LAYER + "n01;m1;", -2013);
        fault(LAYER + "m2;n01;", 3);
        fault("m2;n05;m3;", 3);
        fault("m2;" + LAYER + "n60;x09060;m2;", -2023);
        MuckForFour x = Check.told(LAYER + LAYER + LAYER);
        Check.due("two more than room", Check.tell(x, LAYER + LAYER), -2009);
        Check.due("none of them came", x.count(0), 3);
        Check.due("one more", Check.tell(x, LAYER), 1);
        x.go(1);
        Check.due("mates while one is busy", Check.tell(x, "u010;m1;"), -2005);
        Check.due("nor muck", x.count(3), 0);
    }

    private static void lastMinute() {
        MuckForFour x = new MuckForFour();
        for (int i = 0; i < 165; i++) {
            x.go(60);
        }
        x.go(50);
        Check.due("minute", x.count(2), 9950);
        Check.due("beyond the last", Check.tell(x, "n50;"), -2000);
        Check.due("beyond it by two", Check.tell(x, "n40;n10;"), -2004);
        Check.due("minute yet", x.count(2), 9950);
        Check.due("the last", Check.tell(x, "n40;n09;"), 2);
        Check.due("minute then", x.count(2), 9999);
        Check.due("no more", Check.tell(x, "n01;"), -2000);
        Check.due("go(1)", x.go(1), -6);
        Check.due("in mind it goes on", x.total(240, 1), 0);
    }

    private static void nothingWithAFault() {
        MuckForFour x = Check.told("yl220050;m2;n07;");
        String before = Check.seen(x);
        Check.tell(x, "yl100000;h101;x01020;u120;rl;n10;u121;");
        Check.due("nothing came of a text with a fault: as before", Check.seen(x).equals(before) ? 1 : 0, 1);
        Check.due("hod", x.set(1, 20), 20);
        Check.due("refusals", Check.refusals(x), 0);
    }
}
