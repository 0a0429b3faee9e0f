/** Promises 4 to 6 and 30: layers, what is put and set, and counts. */
public final class StateTest {
    public static void main(String[] args) {
        kinds();
        talker();
        puts();
        sets();
        matesWhileBusy();
        counts();
        Check.end("StateTest");
    }

    private static void kinds() {
        int[][] bricks = {{1, 2, 3, 4}, {1, 1, 2, 2}, {1, 2, 3, 4}, {1, 2, 3, 4}, {2, 3, 4, 5}, {2, 2, 3, 3}};
        int[] units = {1, 1, 2, 1, 2, 1};
        for (int kind = 0; kind < 6; kind++) {
            for (int pace = 1; pace <= 4; pace++) {
                MuckForFour x = Check.told("n01;y" + "lcwtbs".charAt(kind) + pace + "00000;");
                String name = "kind " + kind + " pace " + pace;
                Check.due(name + " kind", x.layer(0, 0), kind);
                Check.due(name + " pace", x.layer(0, 1), pace);
                Check.due(name + " bricks", x.layer(0, 4), bricks[kind][pace - 1]);
                Check.due(name + " units", x.layer(0, 5), units[kind]);
                x.put(0, 0, 60);
                x.put(0, 1, 240);
                Check.due(name + " lays", x.go(1), bricks[kind][pace - 1]);
                Check.due(name + " board", x.layer(0, 2), 60 - bricks[kind][pace - 1] * units[kind]);
                Check.due(name + " stack", x.layer(0, 3), 240 - bricks[kind][pace - 1]);
            }
        }
    }

    private static void talker() {
        MuckForFour x = Check.told("yt360240;");
        for (int minute = 0; minute < 12; minute++) {
            Check.due("talker would lay in " + minute, x.layer(0, 4), minute % 5 == 0 ? 0 : 3);
            Check.due("talker lays in " + minute, x.go(1), minute % 5 == 0 ? 0 : 3);
        }
        MuckForFour y = Check.told("yt400000;");
        Check.due("a talker with nothing stands, but not while he talks", y.total(6, 1), 4);
    }

    private static void puts() {
        MuckForFour x = Check.told("yl212034;yl300000;");
        Check.due("put board", x.put(0, 0, 60), 12);
        Check.due("put board again", x.put(0, 0, 0), 60);
        Check.due("put stack", x.put(0, 1, 240), 34);
        Check.due("put stack again", x.put(0, 1, 7), 240);
        Check.due("board", x.layer(0, 2), 0);
        Check.due("stack", x.layer(0, 3), 7);
        Check.due("the other's board", x.layer(1, 2), 0);
        Check.due("the other's stack", x.put(1, 1, 3), 0);
    }

    private static void sets() {
        int[] least = {1, 10, 1, 1, 20, 0, 0};
        int[] greatest = {3, 40, 9, 20, 120, 120, 5};
        MuckForFour x = new MuckForFour();
        for (int what = 0; what < 7; what++) {
            x.set(what, least[what]);
            Check.due("set(" + what + ") greatest", x.set(what, greatest[what]), least[what]);
            Check.due("set(" + what + ") above", x.set(what, greatest[what] + 1), -6);
            Check.due("set(" + what + ") below", x.set(what, least[what] - 1), -4);
            Check.due("set(" + what + ") least", x.set(what, least[what]), greatest[what]);
            Check.due("set(" + what + ") middle", x.set(what, least[what] + 1), least[what]);
        }
        int[] due = {2, 11, 2, 2, 21, 1, 1};
        for (int what = 0; what < 7; what++) {
            Check.due("setting " + what + " is by itself", x.set(what, due[what]), due[what]);
        }
        Check.due("set(-1)", x.set(-1, 1), -2);
        Check.due("set(7)", x.set(7, 1), -2);
    }

    private static void matesWhileBusy() {
        MuckForFour x = Check.told("yl160240;m2;");
        x.go(1);
        Check.due("nobody is busy", x.set(0, 1), 2);
        x.put(0, 0, 0);
        x.go(1);
        Check.due("one mixes", x.set(0, 1), -3);
        Check.due("one mixes, and 0 is below", x.set(0, 0), -3);
        Check.due("one mixes, and 4 is above", x.set(0, 4), -3);
        Check.due("but HOD may become another", x.set(1, 10), 20);
        x.put(0, 0, 60);
        x.go(7);
        Check.due("he mixes yet", x.set(0, 3), -3);
        x.go(1);
        Check.due("he is free", x.set(0, 3), 1);
        Check.due("a new mate is free", x.mates(2, 0), 0);
    }

    private static void counts() {
        MuckForFour x = Check.told("yl160240;yl400000;m2;u050;re;");
        x.row(5);
        Check.due("LAID", x.go(2), 2);
        Check.tell(x, "n03;");
        x.letter('m');
        x.letter('1');
        int[] due = {2, 2, 5, 30, 5, 1, 1, 1, 2};
        for (int what = 0; what < due.length; what++) {
            Check.due("count(" + what + ")", x.count(what), due[what]);
        }
        int[] others = {-1, 9, 10, 17, Integer.MIN_VALUE, Integer.MAX_VALUE};
        for (int what : others) {
            Check.due("count(" + what + ")", x.count(what), -9);
        }
        Check.due("count is never refused", Check.refusals(x), 0);
    }
}
