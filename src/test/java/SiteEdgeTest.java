/** The edges of what the document says of letters and of a SITE told in them, each sentence by itself. */
public final class SiteEdgeTest {
    private static final String LAYER = "yl100000;";
    /** One of each STATEMENT, with what stands at its places: l a KIND, r a RULE, d a digit. */
    private static final String[] STATEMENTS = {"yl100000;", "m1;", "h201;", "x09060;", "u000;", "rf;", "n01;"};
    private static final String[] PLACES = {"yldddddd;", "md;", "hddd;", "xddddd;", "uddd;", "rr;", "ndd;"};

    public static void main(String[] args) {
        lettersTaken();
        noLetter();
        mostLetters();
        whatMayStandAtAPlace();
        whatLacksAtTheEnd();
        kindOneFirst();
        firstStatementThatIsNot();
        paces();
        boards();
        stacks();
        settingsOfOneNumber();
        settingsOfTwoNumbers();
        minutes();
        roomForLayers();
        matesWhileBusy();
        lastMinute();
        oneWithNothing();
        allOfItComes();
        lettersAreNoMore();
        Check.end("SiteEdgeTest");
    }

    private static void fault(String text, int due) {
        MuckForFour x = new MuckForFour();
        Check.due("site() of '" + text + "'", Check.tell(x, text), due);
        Check.due("letters behind '" + text + "'", x.count(8), 0);
        Check.due("refusals behind '" + text + "'", Check.refusals(x), 0);
    }

    /** "A letter (0 .. 255) comes: how many there are. -4; -6 (255; 96, too)." */
    private static void lettersTaken() {
        MuckForFour x = new MuckForFour();
        Check.due("no letters", x.count(8), 0);
        Check.due("letter(-1)", x.letter(-1), -4);
        Check.due("letter(256)", x.letter(256), -6);
        Check.due("no letters yet", x.count(8), 0);
        Check.due("the least letter", x.letter(0), 1);
        Check.due("the greatest letter", x.letter(255), 2);
        for (int i = 3; i <= 95; i++) {
            x.letter('m');
        }
        Check.due("letters", x.count(8), 95);
        Check.due("the 96th letter", x.letter('m'), 96);
        Check.due("the 97th letter", x.letter('m'), -6);
        Check.due("a 97th letter below", x.letter(-1), -4);
        Check.due("a 97th letter above", x.letter(256), -6);
        Check.due("letters then", x.count(8), 96);
        Check.due("refused -4", x.count(14), 2);
        Check.due("refused -6", x.count(16), 3);
    }

    /** "At least one STATEMENT." */
    private static void noLetter() {
        MuckForFour x = Check.told("yl212034;m2;n04;");
        String before = Check.all(x);
        Check.due("site() without a letter", x.site(), -1000);
        Check.due("site() without a letter again", x.site(), -1000);
        Check.due("all is as before", Check.all(x).equals(before) ? 1 : 0, 1);
        fault(";", -1000);
        fault("n01;", 1);
    }

    /** "A SITE is told in letters, one by one (96 at most)". */
    private static void mostLetters() {
        fault("m1;".repeat(32), 32);
        fault("n01;".repeat(24), 24);
        fault("m1;".repeat(31), 31);
        fault("m1;".repeat(31) + "m1", -1095);
        fault("m1;".repeat(31) + "m1:", -1095);
        fault("m1;".repeat(31) + "m", -1094);
        fault("m1;".repeat(31) + "m4;", -2093);
        fault("m1;".repeat(30) + "yl1000", -1096);
        MuckForFour x = new MuckForFour();
        for (char c : ("m1;".repeat(31) + "m2;").toCharArray()) {
            x.letter(c);
        }
        Check.due("one letter more", x.letter('z'), -6);
        Check.due("it is not in the text", x.site(), 32);
        Check.due("the last statement came", x.count(1), 2);
        Check.due("behind it there is room", x.letter('m'), 1);
    }

    private static boolean may(char place, int c) {
        switch (place) {
            case 'l': return "lcwtbs".indexOf(c) >= 0;
            case 'r': return "ferqsl".indexOf(c) >= 0;
            case 'd': return c >= '0' && c <= '9';
            default: return c == ';';
        }
    }

    /** "kind 1 the place of the first letter with which no SITE can go on": each letter at each place. */
    private static void whatMayStandAtAPlace() {
        for (int c = 0; c <= 255; c++) {
            String one = String.valueOf((char) c);
            fault(one, "ymhxurn".indexOf(c) >= 0 ? -1001 : -1000);
            fault("m1;" + one, "ymhxurn".indexOf(c) >= 0 ? -1004 : -1003);
        }
        for (int s = 0; s < STATEMENTS.length; s++) {
            for (int i = 1; i < STATEMENTS[s].length(); i++) {
                for (int c = 0; c <= 255; c++) {
                    boolean fits = may(PLACES[s].charAt(i), c);
                    if (!fits || i + 1 < STATEMENTS[s].length()) {
                        fault(STATEMENTS[s].substring(0, i) + (char) c, -1000 - i - (fits ? 1 : 0));
                    }
                    if (!fits) {
                        fault("m1;" + STATEMENTS[s].substring(0, i) + (char) c + STATEMENTS[s].substring(i + 1), -1003 - i);
                    }
                }
            }
        }
    }

    /** "(the end, if something lacks)". */
    private static void whatLacksAtTheEnd() {
        for (String statement : STATEMENTS) {
            for (int i = 1; i < statement.length(); i++) {
                fault(statement.substring(0, i), -1000 - i);
                fault("rl;u120;" + statement.substring(0, i), -1008 - i);
            }
            fault(statement, 1);
            fault("rl;u120;" + statement, 3);
        }
    }

    /** "FAULT: kind 1 ..; else kind 2": the shape of all is looked at first, wherever it stands. */
    private static void kindOneFirst() {
        fault("m4;", -2000);
        fault("m4;m", -1004);
        fault("m4;z", -1003);
        fault("m4;;", -1003);
        fault(LAYER.repeat(5), -2036);
        fault(LAYER.repeat(5) + "y", -1046);
        fault("n61;u121;x00019;h090;m0;yl561241", -1032);
        fault("n61;u121;x00019;h090;m0;yl561241;", -2000);
    }

    /** "the place of the first letter of the first STATEMENT that .. is not as it must be". */
    private static void firstStatementThatIsNot() {
        fault("m0;m4;", -2000);
        fault("m1;m4;", -2003);
        fault("m1;rl;m4;m0;", -2006);
        fault("m3;h409;x20120;u120;rl;n60;yl461240;", -2027);
        fault("m3;h409;x20120;u120;rl;n60;yl460240;", 7);
        for (int s = 0; s < STATEMENTS.length; s++) {
            fault(STATEMENTS[s] + "u121;" + STATEMENTS[s], -2000 - STATEMENTS[s].length());
        }
    }

    private static String digits(int v, int width) {
        String text = "000" + v;
        return text.substring(text.length() - width);
    }

    /** A LAYER with any number that its digits can tell: it comes if the number is in range, and then has it. */
    private static void layerNumber(String text, int what, int v, int least, int greatest) {
        MuckForFour x = new MuckForFour();
        boolean in = v >= least && v <= greatest;
        Check.due("site() of " + text, Check.tell(x, text), in ? 1 : -2000);
        Check.due("LAYERS of " + text, x.count(0), in ? 1 : 0);
        Check.due("layer(0, " + what + ") of " + text, x.layer(0, what), in ? v : -1);
    }

    /** "PACE (1 .. 4 bricks a MINUTE)", a digit. */
    private static void paces() {
        for (int v = 0; v <= 9; v++) {
            layerNumber("yl" + v + "00000;", 1, v, 1, 4);
        }
    }

    /** "BOARD (0 .. 60 units of mortar)", 2 digits. */
    private static void boards() {
        for (int v = 0; v <= 99; v++) {
            layerNumber("yl1" + digits(v, 2) + "000;", 2, v, 0, 60);
        }
    }

    /** "STACK (0 .. 240 bricks)", 3 digits. */
    private static void stacks() {
        for (int v = 0; v <= 999; v++) {
            layerNumber("yl100" + digits(v, 3) + ";", 3, v, 0, 240);
        }
    }

    /** A text that makes a setting v: it comes if v is in range, and else the setting is as at first. */
    private static void setting(String text, int what, int v, int least, int greatest, int atFirst) {
        MuckForFour x = new MuckForFour();
        boolean in = v >= least && v <= greatest;
        Check.due("site() of " + text, Check.tell(x, text), in ? 1 : -2000);
        Check.due("setting " + what + " by " + text, x.set(what, atFirst), in ? v : atFirst);
    }

    /** "MATES (1 .. 3: 1 at first)", a digit; "MUCK (.., 0 .. 120: 0 at first)", 3 digits. */
    private static void settingsOfOneNumber() {
        for (int v = 0; v <= 9; v++) {
            setting("m" + v + ";", 0, v, 1, 3, 1);
        }
        for (int v = 0; v <= 999; v++) {
            setting("u" + digits(v, 3) + ";", 5, v, 0, 120, 0);
        }
    }

    /** HOD 10 .. 40 and LADDER 1 .. 9; MIXING 1 .. 20 and BATCH 20 .. 120: either out of range is a FAULT, and neither comes. */
    private static void settingsOfTwoNumbers() {
        for (int v = 0; v <= 99; v++) {
            setting("h" + digits(v, 2) + "5;", 1, v, 10, 40, 20);
            setting("x" + digits(v, 2) + "077;", 3, v, 1, 20, 9);
        }
        for (int v = 0; v <= 9; v++) {
            setting("h33" + v + ";", 2, v, 1, 9, 3);
        }
        for (int v = 0; v <= 999; v++) {
            setting("x11" + digits(v, 3) + ";", 4, v, 20, 120, 60);
        }
        setting("h330;", 1, 0, 1, 9, 20);
        setting("x11019;", 3, 0, 1, 9, 9);
    }

    /** "n" MINUTES (2 digits, 1 .. 60). */
    private static void minutes() {
        for (int v = 0; v <= 99; v++) {
            MuckForFour x = new MuckForFour();
            boolean in = v >= 1 && v <= 60;
            Check.due("site() of n" + v, Check.tell(x, "n" + digits(v, 2) + ";"), in ? 1 : -2000);
            Check.due("MINUTE by n" + v, x.count(2), in ? v : 0);
        }
    }

    /** "LAYERS 0 .. 3 as they come (4 at most)"; "no room for more". */
    private static void roomForLayers() {
        MuckForFour x = new MuckForFour();
        Check.due("no LAYERS", x.count(0), 0);
        Check.due("no LAYER 0", x.layer(0, 0), -1);
        for (int i = 0; i < 4; i++) {
            Check.due("one LAYER more", Check.tell(x, "y" + "lcwt".charAt(i) + (i + 1) + "0100" + i + ";"), 1);
            Check.due("LAYERS", x.count(0), i + 1);
            Check.due("the last KIND", x.layer(i, 0), i);
            Check.due("the last PACE", x.layer(i, 1), i + 1);
            Check.due("none behind it", x.layer(i + 1, 0), -1);
        }
        Check.due("a fifth", Check.tell(x, LAYER), -2000);
        Check.due("a fifth, behind another STATEMENT", Check.tell(x, "rl;" + LAYER), -2003);
        Check.due("LAYERS", x.count(0), 4);
        Check.due("RULE", x.count(5), 0);
        fault(LAYER.repeat(4), 4);
        fault(LAYER.repeat(4) + "m1;" + LAYER, -2039);
        for (int there = 0; there <= 4; there++) {
            for (int more = 1; more <= 5; more++) {
                MuckForFour y = there == 0 ? new MuckForFour() : Check.told(LAYER.repeat(there));
                boolean room = there + more <= 4;
                Check.due(there + " LAYERS and " + more, Check.tell(y, LAYER.repeat(more)), room ? more : -2000 - 9 * (4 - there));
                Check.due(there + " LAYERS then", y.count(0), room ? there + more : there);
            }
        }
    }

    /** "MATES while one is busy": by what is ahead in the text as well as by now. */
    private static void matesWhileBusy() {
        fault(LAYER + "n01;m1;", -2013);
        fault("m2;" + LAYER + "n01;m2;", -2016);
        fault("n01;m2;" + LAYER, 3);
        fault("yl160240;n01;m2;", 3);
        fault("yl100240;h201;x01020;n01;m2;", 5);
        fault("yl100240;h201;x02020;n01;m2;", -2025);
        fault("yl100240;h201;u020;n01;m2;", -2023);
        fault("yl100240;h201;u020;n02;m2;", 5);
        fault("m3;yl100240;yl160240;u020;n01;m3;", -2030);
        MuckForFour x = Check.told("yl100240;x02020;");
        x.go(1);
        Check.due("one mixes", Check.tell(x, "m1;"), -2000);
        Check.due("one mixes until n", Check.tell(x, "h409;n01;m3;"), 3);
        Check.due("MATES", x.count(1), 3);
    }

    /** "MINUTE above 9999". */
    private static void lastMinute() {
        MuckForFour x = new MuckForFour();
        for (int i = 0; i < 165; i++) {
            x.go(60);
        }
        x.go(40);
        Check.due("MINUTE", x.count(2), 9940);
        Check.due("60 beyond it", Check.tell(x, "n60;"), -2000);
        Check.due("59 and 1 beyond it", Check.tell(x, "n59;rl;n01;"), -2007);
        Check.due("MINUTE yet", x.count(2), 9940);
        x.image();
        Check.due("59 more are the last", Check.tell(x, "n59;"), 1);
        Check.due("MINUTE then", x.count(2), 9999);
        Check.due("none more", Check.tell(x, "n01;"), -2000);
        Check.due("all else may come", Check.tell(x, "yl100000;m3;rl;"), 3);
        x.on();
        Check.due("one by one", Check.tell(x, "n01;n57;n01;"), 3);
        Check.due("MINUTE again", x.count(2), 9999);
        Check.due("laid by none", x.count(4), 0);
    }

    /** "with one nothing": of either kind, of all that came ahead of it. */
    private static void oneWithNothing() {
        String[] ahead = {"yl100000;", "m1;", "h401;", "x20020;", "u120;", "rl;", "n60;", "yl100000;rl;n05;"};
        String[] faults = {"m", "m0;", "z", "n00;"};
        for (String some : ahead) {
            for (String fault : faults) {
                MuckForFour x = Check.told("yt230120;m2;h253;x08060;rr;");
                x.row(5);
                x.image();
                String before = Check.all(x);
                Check.tell(x, some + fault);
                Check.due("nothing came of " + some + fault, Check.all(x).equals(before) ? 1 : 0, 1);
                Check.due("no refusals by " + some + fault, Check.refusals(x), 0);
            }
        }
    }

    /** "Without FAULT all of it comes", in its order. */
    private static void allOfItComes() {
        MuckForFour x = Check.told("u120;n10;m3;yl160240;n01;u033;rl;h401;m2;");
        int[] due = {1, 2, 11, 33, 1, 5, -9};
        for (int what = 0; what < due.length; what++) {
            Check.due("count(" + what + ")", x.count(what), due[what]);
        }
        MuckForFour y = Check.told("yt360240;n05;yt360240;n01;");
        Check.due("the first talks in MINUTE 0 and 5", y.layer(0, 3), 240 - 12);
        Check.due("the other in 5", y.layer(1, 3), 240);
        Check.due("LAID by n", y.count(4), 12);
    }

    /** "The letters become a SITE, and are no more (with a FAULT neither)". */
    private static void lettersAreNoMore() {
        String[] texts = {"m1;", "m4;", "m", "q"};
        for (String text : texts) {
            MuckForFour x = new MuckForFour();
            Check.tell(x, text);
            Check.due("letters behind " + text, x.count(8), 0);
            Check.due("site() then", x.site(), -1000);
            Check.due("a new text", Check.tell(x, "m2;rl;"), 2);
        }
    }
}
