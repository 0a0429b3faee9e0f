/** The edges of what the document says of LAYERS, MATES, RULES and a MINUTE, each sentence by itself; worked out by hand. */
public final class MinuteEdgeTest {
    private static final String KINDS = "lcwtbs";
    private static final int[][] BRICKS = {{1, 2, 3, 4}, {1, 1, 2, 2}, {1, 2, 3, 4}, {1, 2, 3, 4}, {2, 3, 4, 5}, {2, 2, 3, 3}};
    private static final int[] UNITS = {1, 1, 2, 1, 2, 1};

    public static void main(String[] args) {
        newObject();
        enoughForThese();
        oddBoard();
        fifthMinutes();
        fifthMinutesLate();
        boardFull();
        boardFullByPut();
        stackFullByPut();
        putEdges();
        muckEmpty();
        muckFull();
        muckAboveWhatIsTold();
        mixingMinutes();
        ladderMinutes();
        belowHod();
        mortarOrBricks();
        nobodyToServe();
        onHisWay();
        hodAsItIsThen();
        matesByNumbers();
        laidBeforeItComes();
        goEdges();
        goAtTheLastMinute();
        Check.end("MinuteEdgeTest");
    }

    /** "No LAYERS, one MATE, nothing mixed." */
    private static void newObject() {
        MuckForFour x = new MuckForFour();
        int[] due = {0, 1, 0, 0, 0, 0, -9, 0, 0};
        for (int what = 0; what < due.length; what++) {
            Check.due("new: count(" + what + ")", x.count(what), due[what]);
        }
        Check.due("new: layer(0, 0)", x.layer(0, 0), -1);
        Check.due("new: mates(0, 0)", x.mates(0, 0), 0);
        Check.due("new: mates(0, 1)", x.mates(0, 1), -9);
        Check.due("new: mates(0, 2)", x.mates(0, 2), 0);
        Check.due("new: mates(1, 0)", x.mates(1, 0), -1);
        Check.due("new: go(60)", x.go(60), 0);
        Check.due("new: nobody was served", x.count(6), -9);
        Check.due("new: on()", x.on(), -3);
        Check.due("new: site()", x.site(), -1000);
        Check.due("new: badly()", x.badly(), 63);
        Check.due("new: judge()", x.judge(), -9);
    }

    private static void lays(String kind, int board, int stack, int bricks, int stands, int boardThen, int stackThen) {
        MuckForFour x = Check.told("n01;y" + kind + "00000;");
        x.put(0, 0, board);
        x.put(0, 1, stack);
        String name = kind + " with " + board + " and " + stack + ": ";
        Check.due(name + "STANDS", x.total(1, 1), stands);
        Check.due(name + "stood", x.stood(1, 0), stands);
        Check.due(name + "emptyFirst", x.emptyFirst(1) == 0 ? 1 : 0, stands);
        Check.due(name + "would lay", x.layer(0, 4), BRICKS[KINDS.indexOf(kind.charAt(0))][kind.charAt(1) - '1']);
        Check.due(name + "LAYS", x.go(1), bricks);
        Check.due(name + "BOARD", x.layer(0, 2), boardThen);
        Check.due(name + "STACK", x.layer(0, 3), stackThen);
    }

    /** "One LAYS so many of these as BOARD and STACK have enough for; it STANDS in a MINUTE in which it could lay fewer". */
    private static void enoughForThese() {
        for (int k = 0; k < 6; k++) {
            for (int pace = 1; pace <= 4; pace++) {
                String kind = KINDS.charAt(k) + "" + pace;
                int b = BRICKS[k][pace - 1];
                int u = UNITS[k];
                lays(kind, b * u, b, b, 0, 0, 0);
                lays(kind, b * u - 1, b, b - 1, 1, u - 1, 1);
                lays(kind, b * u, b - 1, b - 1, 1, u, 0);
                lays(kind, b * u + 1, b + 1, b, 0, 1, 1);
                lays(kind, 0, 240, 0, 1, 0, 240);
                lays(kind, 60, 0, 0, 1, 60, 0);
                lays(kind, 0, 0, 0, 1, 0, 0);
                lays(kind, 60, 240, b, 0, 60 - b * u, 240 - b);
            }
        }
    }

    /** One unit is not enough for a brick that takes 2. */
    private static void oddBoard() {
        lays("w1", 1, 240, 0, 1, 1, 240);
        lays("w1", 2, 240, 1, 0, 0, 239);
        lays("w2", 3, 240, 1, 1, 1, 239);
        lays("b4", 9, 240, 4, 1, 1, 236);
        lays("b4", 10, 240, 5, 0, 0, 235);
    }

    /** "none in each fifth MINUTE (0, 5, ..)", and he does not STAND in it. */
    private static void fifthMinutes() {
        int[] laid = {0, 1, 1, 1, 1, 0, 1, 1, 1, 1, 0, 1};
        MuckForFour x = Check.told("yt160240;");
        for (int minute = 0; minute < laid.length; minute++) {
            Check.due("MINUTE " + minute + " would lay", x.layer(0, 4), laid[minute]);
            Check.due("MINUTE " + minute + " in mind", x.total(1, 0), laid[minute]);
            Check.due("MINUTE " + minute + " LAYS", x.go(1), laid[minute]);
        }
        MuckForFour y = Check.told("yt100000;");
        int[] stands = {0, 1, 1, 1, 1, 0, 1};
        for (int minute = 0; minute < stands.length; minute++) {
            y.put(0, 0, 0);
            y.put(0, 1, 0);
            Check.due("MINUTE " + minute + " STANDS with nothing", y.stood(1, 0), stands[minute]);
            Check.due("MINUTE " + minute + " too little mortar", y.fault(1, 0, 0), stands[minute]);
            y.go(1);
        }
    }

    /** MINUTE 9995 is a fifth one, 9999 is none; in mind 10000 is one. */
    private static void fifthMinutesLate() {
        MuckForFour x = new MuckForFour();
        for (int i = 0; i < 166; i++) {
            x.go(60);
        }
        x.go(34);
        Check.tell(x, "n01;yt360240;");
        Check.due("MINUTE", x.count(2), 9995);
        Check.due("in 9995", x.layer(0, 4), 0);
        Check.due("in 9995 .. 9999", x.total(5, 0), 12);
        Check.due("in 9995 .. 10000", x.total(6, 0), 12);
        Check.due("in 9995 .. 10001", x.total(7, 0), 15);
        Check.due("go(4)", x.go(4), 9);
        Check.due("in 9999", x.layer(0, 4), 3);
        Check.due("in 9999 and 10000", x.total(2, 0), 3);
        Check.due("in 9999 .. 10001", x.total(3, 0), 6);
        Check.due("LAID in all", x.count(4), 9);
    }

    private static void comes(String text, int lost, int board, int stack, int muck) {
        MuckForFour x = Check.told(text);
        Check.due(text + " LOST", x.total(1, 4), lost);
        Check.due(text + " BOARD then", x.left(1, 0, 0), board);
        Check.due(text + " STACK then", x.left(1, 0, 1), stack);
        Check.due(text + " MUCK then", x.total(1, 5), muck + board);
    }

    /** "BOARD .. is HOD .. more, 60 .. at most, what is more is lost": a TALKER lays none in MINUTE 0. */
    private static void boardFull() {
        comes("yt119240;h401;u120;", 0, 59, 240, 80);
        comes("yt120240;h401;u120;", 0, 60, 240, 80);
        comes("yt121240;h401;u120;", 1, 60, 240, 80);
        comes("yt139240;h401;u120;", 19, 60, 240, 80);
        comes("yt100240;h401;u040;", 0, 40, 240, 0);
        comes("yt100000;h101;u010;", 0, 10, 0, 0);
    }

    private static MuckForFour underWay(String text, int what, int v) {
        MuckForFour x = Check.told(text);
        x.go(1);
        x.put(0, what, v);
        return x;
    }

    private static void boardFullByPut() {
        int[][] due = {{0, 0, 20}, {40, 0, 59}, {41, 0, 60}, {42, 1, 60}, {60, 19, 60}};
        for (int[] one : due) {
            MuckForFour x = underWay("yl100240;h202;u020;", 0, one[0]);
            Check.due("BOARD " + one[0] + " LOST", x.total(1, 4), one[1]);
            Check.due("BOARD " + one[0] + " then", x.left(1, 0, 0), one[2]);
            Check.due("BOARD " + one[0] + " LOST ahead of it", x.total(0, 4), 0);
            x.go(1);
            Check.due("BOARD " + one[0] + " LOST from now", x.total(1, 4), 0);
        }
    }

    /** "STACK is HOD .. more, .. 240 at most, what is more is lost". */
    private static void stackFullByPut() {
        int[][] due = {{0, 0, 20}, {220, 0, 239}, {221, 0, 240}, {222, 1, 240}, {240, 19, 240}};
        for (int[] one : due) {
            MuckForFour x = underWay("yl160010;h202;", 1, one[0]);
            Check.due("STACK " + one[0] + " LOST", x.total(1, 4), one[1]);
            Check.due("STACK " + one[0] + " then", x.left(1, 0, 1), one[2]);
        }
    }

    /** "BOARD (what 0), STACK (1) becomes v: what it was." */
    private static void putEdges() {
        MuckForFour x = Check.told("yl100000;yl100000;yl100000;yl460240;");
        Check.due("put(3, 0, 0)", x.put(3, 0, 0), 60);
        Check.due("put(3, 0, 60)", x.put(3, 0, 60), 0);
        Check.due("put(3, 0, 61)", x.put(3, 0, 61), -6);
        Check.due("put(3, 0, -1)", x.put(3, 0, -1), -4);
        Check.due("BOARD", x.layer(3, 2), 60);
        Check.due("put(3, 1, 0)", x.put(3, 1, 0), 240);
        Check.due("put(3, 1, 240)", x.put(3, 1, 240), 0);
        Check.due("put(3, 1, 241)", x.put(3, 1, 241), -6);
        Check.due("put(3, 1, -1)", x.put(3, 1, -1), -4);
        Check.due("STACK", x.layer(3, 3), 240);
        Check.due("put(4, 0, 0)", x.put(4, 0, 0), -1);
        Check.due("put(-1, 0, 0)", x.put(-1, 0, 0), -1);
        Check.due("another's BOARD", x.layer(2, 2), 0);
    }

    private static void begins(String text, int mixes, int trips, int muck) {
        MuckForFour x = Check.told(text);
        Check.due(text + " MIXES", x.total(1, 3), mixes);
        Check.due(text + " TRIPS", x.total(1, 2), trips);
        x.go(1);
        Check.due(text + " MUCK", x.count(3), muck);
    }

    /** "if he would bring mortar and MUCK is less than HOD, he MIXES; else he takes the HOD". */
    private static void muckEmpty() {
        begins("yl100240;", 1, 0, 0);
        begins("yl100240;u019;", 1, 0, 19);
        begins("yl100240;u020;", 0, 1, 0);
        begins("yl100240;u021;", 0, 1, 1);
        begins("yl100240;h103;u009;", 1, 0, 9);
        begins("yl100240;h103;u010;", 0, 1, 0);
        begins("yl100240;h403;u039;", 1, 0, 39);
        begins("yl100240;h403;u040;", 0, 1, 0);
        begins("yl160000;", 0, 1, 0);
        begins("yl160000;u005;", 0, 1, 5);
    }

    /** "then MUCK is BATCH more, 240 at most". */
    private static void muckFull() {
        begins("yl100240;x01120;", 1, 0, 120);
        begins("yl100240;x01020;", 1, 0, 20);
        begins("yl100240;m2;x01120;", 2, 0, 240);
        begins("yl100240;m3;x01120;", 3, 0, 240);
        begins("yl100240;m3;x01080;", 3, 0, 240);
        begins("yl100240;m3;x01079;", 3, 0, 237);
        begins("yl100240;m3;x01081;", 3, 0, 240);
        begins("yl100240;m3;x01074;u019;", 3, 0, 240);
        begins("yl100240;m3;x01074;u018;", 3, 0, 240);
        begins("yl100240;m3;x01074;u017;", 3, 0, 239);
        MuckForFour x = Check.told("yl100240;m3;x02119;");
        x.go(1);
        x.set(5, 120);
        x.go(1);
        Check.due("120 and three of 119", x.count(3), 240);
        Check.due("and none is LOST by carrying", x.total(0, 4), 0);
    }

    /** Mixed MUCK may be above what can be told or set. */
    private static void muckAboveWhatIsTold() {
        MuckForFour x = Check.told("yl100240;m3;x01120;n01;");
        Check.due("MUCK", x.count(3), 240);
        Check.due("total(0, 5)", x.total(0, 5), 240);
        Check.due("set(5, 121)", x.set(5, 121), -6);
        Check.due("MUCK yet", x.count(3), 240);
        x.go(1);
        Check.due("a HOD less", x.count(3), 220);
        Check.due("set(5, 120)", x.set(5, 120), 220);
        Check.due("set(5, 0)", x.set(5, 0), 120);
        Check.due("MUCK then", x.count(3), 0);
    }

    private static void mate(MuckForFour x, int minutes, int to, int mortar) {
        Check.due("MINUTE " + x.count(2) + " mates(0, 0)", x.mates(0, 0), minutes);
        Check.due("MINUTE " + x.count(2) + " mates(0, 1)", x.mates(0, 1), to);
        Check.due("MINUTE " + x.count(2) + " mates(0, 2)", x.mates(0, 2), mortar);
    }

    /** "busy MIXING MINUTES": 1 .. 20. */
    private static void mixingMinutes() {
        for (int mixing = 1; mixing <= 20; mixing++) {
            MuckForFour x = Check.told("yl100240;u019;");
            x.set(3, mixing);
            for (int minute = 1; minute <= mixing; minute++) {
                x.go(1);
                mate(x, mixing - minute, -9, 0);
                Check.due("MUCK", x.count(3), minute < mixing ? 19 : 79);
            }
            Check.due("nobody is served by that", x.count(6), -9);
            x.go(1);
            mate(x, 2, 0, 1);
        }
    }

    /** "busy LADDER MINUTES up .., and LADDER MINUTES down": 1 .. 9. */
    private static void ladderMinutes() {
        for (int ladder = 1; ladder <= 9; ladder++) {
            MuckForFour x = Check.told("yl160000;u120;");
            x.set(2, ladder);
            for (int minute = 1; minute <= 2 * ladder; minute++) {
                x.go(1);
                boolean up = minute < ladder;
                int yet = minute == 2 * ladder ? 0 : up ? ladder - minute : 2 * ladder - minute;
                mate(x, yet, up ? 0 : -9, 0);
                Check.due("bricks", x.layer(0, 3), up ? 0 : 20 - (minute - ladder));
                Check.due("served latest", x.count(6), 0);
            }
            withMortar(ladder);
        }
    }

    /** He is with mortar on his way up, and with nothing else ever. */
    private static void withMortar(int ladder) {
        MuckForFour x = Check.told("yl100240;u020;x02020;");
        x.set(2, ladder);
        for (int minute = 1; minute <= 2 * ladder; minute++) {
            x.go(1);
            Check.due("with mortar in " + minute + " of LADDER " + ladder, x.mates(0, 2), minute < ladder ? 1 : 0);
        }
        x.put(0, 0, 0);
        x.go(1);
        mate(x, 1, -9, 0);
    }

    private static void served(String text, int due) {
        MuckForFour x = Check.told("u120;" + text);
        x.go(1);
        Check.due("served by " + text, x.count(6), due);
        Check.due("TRIPS of " + text, x.mates(0, 0) > 0 ? 1 : 0, due < 0 ? 0 : 1);
    }

    /** "of those whose BOARD or STACK is below HOD", which is 10 .. 40. */
    private static void belowHod() {
        for (int hod = 10; hod <= 40; hod++) {
            String h = "h" + hod + "3;";
            served(h + "yl1" + hod + "0" + hod + ";", -9);
            served(h + "yl1" + hod + "240;", -9);
            served(h + "yl1600" + hod + ";", -9);
            served(h + "yl1" + hod + "0" + (hod > 10 ? "" : "0") + (hod - 1) + ";", 0);
            served(h + "yl1" + (hod > 10 ? "" : "0") + (hod - 1) + "0" + hod + ";", 0);
            served(h + "yl100240;", 0);
            served(h + "yl160000;", 0);
        }
    }

    private static void brings(String text, int mortar, int muck) {
        MuckForFour x = Check.told("u120;" + text);
        x.go(1);
        Check.due("mates(0, 2) by " + text, x.mates(0, 2), mortar);
        Check.due("MUCK by " + text, x.count(3), muck);
    }

    /** "He brings mortar, if BOARD is no more than STACK, else bricks." */
    private static void mortarOrBricks() {
        brings("yl100000;", 1, 100);
        brings("yl101000;", 0, 120);
        brings("yl100001;", 1, 100);
        brings("yl119019;", 1, 100);
        brings("yl119018;", 0, 120);
        brings("yl118019;", 1, 100);
        brings("yl119240;", 1, 100);
        brings("yl160019;", 0, 120);
    }

    /** "(none: he waits)". */
    private static void nobodyToServe() {
        MuckForFour x = Check.told("m3;u120;n60;");
        Check.due("TRIPS without LAYERS", x.total(240, 2), 0);
        Check.due("MIXES without LAYERS", x.total(240, 3), 0);
        Check.due("nobody is busy", x.set(0, 3), 3);
        MuckForFour y = Check.told("yl120020;");
        Check.due("all have enough", y.total(1, 2) + y.total(1, 3), 0);
        Check.due("a brick later they have not", y.total(2, 2) + y.total(2, 3), 1);
        y.go(1);
        Check.due("he waited", y.mates(0, 0), 0);
    }

    /** "to whom no MATE is on his way up": while he mixes or goes down, another may serve. */
    private static void onHisWay() {
        // up in 0 and 1; in 2 the BOARD has a HOD; in 3 the first goes down yet, and the next goes up
        MuckForFour x = Check.told("yl100240;m3;u120;h202;");
        int[] trips = {0, 1, 1, 1, 2, 2};
        for (int n = 0; n < trips.length; n++) {
            Check.due("TRIPS in " + n, x.total(n, 2), trips[n]);
        }
        MuckForFour y = Check.told("yl100240;yl100240;m3;u120;");
        Check.due("two LAYERS, three MATES", y.total(1, 2), 2);
        MuckForFour z = Check.told("yl100240;m3;u059;");
        Check.due("one goes up, the others wait", z.total(1, 2), 1);
        Check.due("they do not mix", z.total(1, 3), 0);
        MuckForFour w = Check.told("yl100240;m3;u019;x20060;");
        w.go(1);
        w.set(5, 20);
        Check.due("all three mix", w.mates(2, 0), 19);
        w.set(3, 1);
        Check.due("nobody is free for it", w.total(19, 2), 0);
        Check.due("they are then", w.total(20, 2), 1);
    }

    /** "BOARD or STACK is HOD, as that is then, more". */
    private static void hodAsItIsThen() {
        int[] hods = {10, 19, 21, 40};
        for (int hod : hods) {
            MuckForFour x = Check.told("yl100240;u120;h202;n01;");
            x.set(1, hod);
            Check.due("MUCK taken", x.count(3), 100);
            Check.due("BOARD by HOD " + hod, x.left(1, 0, 0), hod);
            MuckForFour y = Check.told("yl160010;h202;n01;");
            y.set(1, hod);
            Check.due("STACK by HOD " + hod, y.left(1, 0, 1), 8 + hod);
        }
    }

    /** "each MATE by numbers": what one takes, the next has not. */
    private static void matesByNumbers() {
        MuckForFour x = Check.told("yl100240;yl100240;m2;u039;n01;");
        Check.due("the first goes up", x.mates(0, 1), 0);
        Check.due("the second mixes", x.mates(1, 0), 8);
        Check.due("for whom nobody is served", x.count(6), 0);
        MuckForFour y = Check.told("yl100240;yl100240;m2;u040;n01;");
        Check.due("the second goes up, too", y.mates(1, 1), 1);
        Check.due("whom he serves", y.count(6), 1);
        MuckForFour z = Check.told("yl100240;yl160000;m2;n01;");
        Check.due("the first mixes for LAYER 0", z.mates(0, 0), 8);
        Check.due("the second mixes for him, too", z.mates(1, 0), 8);
        MuckForFour w = Check.told("yl100240;yl160000;m2;u020;n01;");
        Check.due("the first goes to 0", w.mates(0, 1), 0);
        Check.due("the second to 1", w.mates(1, 1), 1);
        Check.due("with bricks", w.mates(1, 2), 0);
    }

    /** "Then all LAYERS by numbers LAY. Then .. what comes by that comes." */
    private static void laidBeforeItComes() {
        MuckForFour x = Check.told("yl400240;h101;u120;");
        Check.due("nothing in the first", x.total(1, 0), 0);
        Check.due("of the HOD in the second", x.total(2, 0), 4);
        MuckForFour y = Check.told("yl100240;x01060;h101;");
        Check.due("what is mixed in the first", y.total(1, 2), 0);
        Check.due("is taken in the second", y.total(2, 2), 1);
        MuckForFour z = Check.told("yl400240;m2;x01060;h101;u009;");
        Check.due("nor by the next of the same MINUTE", z.total(1, 3), 2);
    }

    /** "n MINUTES (1 .. 60) go by": as n times one. */
    private static void goEdges() {
        MuckForFour x = Check.told("yl160240;");
        Check.due("go(0)", x.go(0), -4);
        Check.due("go(61)", x.go(61), -6);
        Check.due("MINUTE", x.count(2), 0);
        Check.due("go(1)", x.go(1), 1);
        Check.due("MINUTE 1", x.count(2), 1);
        MuckForFour y = Check.told("yl115100;yb402090;yt318012;m2;u050;rr;");
        MuckForFour z = Check.told("yl115100;yb402090;yt318012;m2;u050;rr;");
        int laid = 0;
        for (int i = 0; i < 60; i++) {
            laid += z.go(1);
        }
        Check.due("go(60) is sixty go(1)", y.go(60), laid);
        Check.due("in all", y.count(4), laid);
        Check.due("all is alike", Check.all(y).equals(Check.all(z)) ? 1 : 0, 1);
    }

    /** "-6 (60; MINUTE above 9999)". */
    private static void goAtTheLastMinute() {
        MuckForFour x = new MuckForFour();
        for (int i = 0; i < 165; i++) {
            x.go(60);
        }
        x.go(39);
        Check.tell(x, "yl160240;");
        Check.due("MINUTE", x.count(2), 9939);
        x.image();
        Check.due("go(60) to 9999", x.go(60), 60);
        Check.due("MINUTE then", x.count(2), 9999);
        Check.due("go(1)", x.go(1), -6);
        Check.due("go(0)", x.go(0), -4);
        Check.due("image() there", x.image(), 9999);
        Check.due("in mind MINUTES go on", x.total(1, 0), 1);
        Check.due("on() there", x.on(), 9999);
        MuckForFour y = new MuckForFour();
        for (int i = 0; i < 165; i++) {
            y.go(60);
        }
        y.go(40);
        Check.due("go(60) to 10000", y.go(60), -6);
        Check.due("go(59) to 9999", y.go(59), 0);
        Check.due("MINUTE there", y.count(2), 9999);
    }
}
