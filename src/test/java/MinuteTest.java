/** Promises 7 and 8, and what a minute is: mates, rules, layers in turn. */
public final class MinuteTest {
    public static void main(String[] args) {
        mortarComes();
        bricksCome();
        asItIsThen();
        lostOnes();
        muckAtMost();
        matesInTurn();
        rules();
        ties();
        roundAndRound();
        hodIsEnough();
        goRefused();
        Check.end("MinuteTest");
    }

    private static void mate(MuckForFour x, int number, int minutes, int to, int mortar) {
        Check.due("minute " + x.count(2) + " mates(" + number + ", 0)", x.mates(number, 0), minutes);
        Check.due("minute " + x.count(2) + " mates(" + number + ", 1)", x.mates(number, 1), to);
        Check.due("minute " + x.count(2) + " mates(" + number + ", 2)", x.mates(number, 2), mortar);
    }

    private static void state(MuckForFour x, int muck, int board, int stack) {
        Check.due("minute " + x.count(2) + " MUCK", x.count(3), muck);
        Check.due("minute " + x.count(2) + " BOARD", x.layer(0, 2), board);
        Check.due("minute " + x.count(2) + " STACK", x.layer(0, 3), stack);
    }

    private static void mortarComes() {
        MuckForFour x = Check.told("yl100240;");
        Check.due("go(1)", x.go(1), 0);
        mate(x, 0, 8, -9, 0);
        Check.due("nobody is served by mixing", x.count(6), -9);
        Check.due("go(7)", x.go(7), 0);
        mate(x, 0, 1, -9, 0);
        state(x, 0, 0, 240);
        x.go(1);
        mate(x, 0, 0, -9, 0);
        state(x, 60, 0, 240);
        x.go(1);
        mate(x, 0, 2, 0, 1);
        state(x, 40, 0, 240);
        Check.due("served", x.count(6), 0);
        x.go(2);
        mate(x, 0, 3, -9, 0);
        state(x, 40, 20, 240);
        Check.due("go(1)", x.go(1), 1);
        mate(x, 0, 2, -9, 0);
        Check.due("go(2)", x.go(2), 2);
        mate(x, 0, 0, -9, 0);
        state(x, 40, 17, 237);
        Check.due("go(3)", x.go(3), 3);
        mate(x, 0, 3, -9, 0);
        state(x, 20, 34, 234);
        Check.due("go(15)", x.go(15), 15);
        mate(x, 0, 0, -9, 0);
        state(x, 20, 19, 219);
        Check.due("LAID", x.count(4), 21);
        Check.due("MINUTE", x.count(2), 33);
    }

    private static void bricksCome() {
        MuckForFour x = Check.told("yl460000;");
        x.go(1);
        mate(x, 0, 2, 0, 0);
        Check.due("go(2)", x.go(2), 0);
        state(x, 0, 60, 20);
        Check.due("go(6)", x.go(6), 20);
        state(x, 0, 40, 20);
        MuckForFour y = Check.told("yl110010;u020;");
        y.go(1);
        Check.due("alike: he brings mortar", y.mates(0, 2), 1);
        MuckForFour z = Check.told("yl111010;u020;");
        z.go(1);
        Check.due("more on the board: bricks", z.mates(0, 2), 0);
        Check.due("of which no MUCK is taken", z.count(3), 20);
    }

    private static void asItIsThen() {
        MuckForFour x = Check.told("yl100240;u060;");
        x.go(1);
        Check.due("a HOD is taken", x.count(3), 40);
        x.set(1, 30);
        x.set(2, 5);
        x.go(2);
        state(x, 40, 30, 240);
        mate(x, 0, 5, -9, 0);
        MuckForFour y = Check.told("yl100240;");
        y.go(1);
        y.set(4, 100);
        y.set(3, 1);
        y.go(7);
        Check.due("it is not mixed yet", y.count(3), 0);
        y.go(1);
        Check.due("BATCH, as that is then", y.count(3), 100);
    }

    private static void lostOnes() {
        MuckForFour x = Check.told("yl139240;h401;u120;");
        Check.due("mortar lost", x.total(1, 4), 18);
        Check.due("board then", x.left(1, 0, 0), 60);
        Check.due("mortar lost of both", Check.told("yl139240;yl139240;m2;h401;u120;").total(1, 4), 36);
        MuckForFour y = Check.told("yl160010;h202;");
        y.go(1);
        y.put(0, 1, 240);
        Check.due("bricks lost", y.total(1, 4), 19);
        Check.due("stack then", y.left(1, 0, 1), 240);
        Check.due("only what was more from now", y.total(0, 4), 0);
    }

    private static void muckAtMost() {
        MuckForFour x = Check.told("yl100000;m3;x01120;");
        Check.due("all three mix: MIXES", x.total(1, 3), 3);
        Check.due("LOST is what was carried", x.total(1, 4), 0);
        x.go(1);
        Check.due("MUCK", x.count(3), 240);
        Check.due("set answers what it was", x.set(5, 120), 240);
    }

    private static void matesInTurn() {
        MuckForFour x = Check.told("yl100000;m2;u120;");
        x.go(1);
        mate(x, 0, 2, 0, 1);
        mate(x, 1, 0, -9, 0);
        x.go(2);
        mate(x, 0, 3, -9, 0);
        x.go(1);
        mate(x, 0, 2, -9, 0);
        mate(x, 1, 2, 0, 0);
        MuckForFour y = Check.told("yl100000;yl100000;m3;u030;");
        y.go(1);
        mate(y, 0, 2, 0, 1);
        mate(y, 1, 8, -9, 0);
        mate(y, 2, 8, -9, 0);
        MuckForFour z = Check.told("yl105240;h201;u020;");
        Check.due("laid before the hod is there", z.go(1), 1);
        state(z, 0, 24, 239);
    }

    private static void served(String text, int due) {
        MuckForFour x = Check.told(text);
        x.go(1);
        Check.due("served by " + text, x.count(6), due);
    }

    private static void rules() {
        String site = "u120;yl115015;yl414018;yb212016;yt105009;";
        served(site + "rf;", 0);
        served(site + "re;", 3);
        served(site + "rr;", 0);
        served(site + "rq;", 1);
        served(site + "rs;", 2);
        served(site + "rl;", 3);
        served("u120;yl160240;yl115015;rl;", 1);
        served("u120;yl115015;yl160240;rl;", 0);
        served("u120;yl160240;yl460240;yl115015;rq;", 2);
        served("u120;ys110240;yc110240;rs;", 0);
        served("u120;yl419019;yc413013;rs;", 0);
        served("u120;yt312240;yl313240;rs;", 0);
        served("u120;yl310240;yt310240;yt309240;rs;", 0);
        served("u120;yl360006;yl360005;rs;", 1);
        served("u120;yl160006;yl460008;rs;", 1);
        served("u120;yl360010;yl360009;re;", 1);
        served("u120;yl160240;rf;", -9);
    }

    private static void ties() {
        for (char rule : "ferqs".toCharArray()) {
            served("u120;yl160240;yl210010;yl210010;r" + rule + ";", 1);
        }
        served("u120;yl160240;yl210010;yl210010;rl;", 2);
    }

    private static void roundAndRound() {
        MuckForFour x = Check.told("yl400000;yl460240;yl400000;yl400000;u120;h101;rr;");
        int[] due = {0, 2, 3, 0, 2, 3};
        for (int trip = 0; trip < due.length; trip++) {
            x.go(2);
            Check.due("trip " + trip, x.count(6), due[trip]);
            x.put(1, 0, 60);
            x.set(5, 120);
            for (int i = 0; i < 4; i++) {
                x.put(i, 0, i == 1 ? 60 : 0);
                x.put(i, 1, i == 1 ? 240 : 0);
            }
        }
        x.set(6, 0);
        x.go(2);
        Check.due("by FIRST", x.count(6), 0);
        x.set(6, 5);
        x.go(2);
        Check.due("by LAST", x.count(6), 3);
    }

    private static void hodIsEnough() {
        served("u120;yl120020;", -9);
        served("u120;yl119020;", 0);
        served("u120;yl120019;", 0);
        served("u120;h213;yl120020;", 0);
    }

    private static void goRefused() {
        MuckForFour x = Check.told("yl460240;u120;");
        Check.due("go(0)", x.go(0), -4);
        Check.due("go(least)", x.go(Integer.MIN_VALUE), -4);
        Check.due("go(61)", x.go(61), -6);
        Check.due("go(greatest)", x.go(Integer.MAX_VALUE), -6);
        Check.due("MINUTE", x.count(2), 0);
        for (int i = 0; i < 166; i++) {
            x.go(60);
        }
        Check.due("MINUTE late", x.count(2), 9960);
        Check.due("go(40)", x.go(40), -6);
        Check.due("go(0) late", x.go(0), -4);
        x.go(38);
        x.go(1);
        Check.due("the last MINUTE", x.count(2), 9999);
        Check.due("go(1) too late", x.go(1), -6);
    }
}
