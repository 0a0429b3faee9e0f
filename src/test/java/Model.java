import java.util.ArrayList;
import java.util.List;

/**
 * The document once more, written as plainly as it reads, with kinds as classes under one another and a new
 * copy for every thought: what MuckForFour answers is compared with this by ModelTest.
 */
final class Model {
    static class Lay {
        int pace;
        int board;
        int stack;

        int kind() { return 0; }

        int bricks() { return pace; }

        int bricks(int minute) { return bricks(); }

        int units() { return 1; }
    }

    static class Corner extends Lay {
        @Override int kind() { return 1; }

        @Override int bricks() { return (int) Math.ceil(pace / 2.0); }
    }

    static class Waster extends Lay {
        @Override int kind() { return 2; }

        @Override int units() { return 2; }
    }

    static class Talker extends Lay {
        @Override int kind() { return 3; }

        @Override int bricks(int minute) { return minute % 5 == 0 ? 0 : bricks(); }
    }

    static class Botcher extends Waster {
        @Override int kind() { return 4; }

        @Override int bricks() { return super.bricks() + 1; }
    }

    static class Steady extends Corner {
        @Override int kind() { return 5; }

        @Override int bricks() { return super.bricks() + 1; }
    }

    static Lay lay(int kind) {
        switch (kind) {
            case 0: return new Lay();
            case 1: return new Corner();
            case 2: return new Waster();
            case 3: return new Talker();
            case 4: return new Botcher();
            default: return new Steady();
        }
    }

    static class Hand {
        String doing = "free";
        int yet;
        int to = -9;
        boolean mortar;
    }

    static class First {
        int serve(World w, List<Integer> these) { return these.get(0); }
    }

    static class Empty extends First {
        double worth(World w, int i) { return -Math.min(w.lays.get(i).board, w.lays.get(i).stack); }

        @Override int serve(World w, List<Integer> these) {
            int best = these.get(0);
            for (int i : these) {
                if (worth(w, i) > worth(w, best)) {
                    best = i;
                }
            }
            return best;
        }
    }

    static class Round extends First {
        @Override int serve(World w, List<Integer> these) {
            for (int i : these) {
                if (i > w.latest) {
                    return i;
                }
            }
            return these.get(0);
        }
    }

    static class Quick extends Empty {
        @Override double worth(World w, int i) { return w.lays.get(i).pace; }
    }

    static class Soon extends Empty {
        @Override double worth(World w, int i) {
            Lay l = w.lays.get(i);
            return -Math.min(Math.floor((double) l.board / l.bricks() / l.units()), Math.floor((double) l.stack / l.bricks()));
        }
    }

    static class Last extends Round {
        @Override int serve(World w, List<Integer> these) { return these.get(these.size() - 1); }
    }

    static First rule(int kind) {
        switch (kind) {
            case 0: return new First();
            case 1: return new Empty();
            case 2: return new Round();
            case 3: return new Quick();
            case 4: return new Soon();
            default: return new Last();
        }
    }

    static class World {
        List<Lay> lays = new ArrayList<>();
        List<Hand> hands = new ArrayList<>();
        int[] settings = {1, 20, 3, 9, 60, 0, 0};
        int minute;
        int laidInAll;
        int latest = -9;

        int water;
        int mixUntil = 1 << 30;
        int gone;
        int laid;
        int stood;
        int lost;
        int together;
        int firstLayer = -9;
        int firstMinute = -9;
        int[] stoodOf = new int[4];
        int[] mortarFault = new int[4];
        int[] bricksFault = new int[4];
        List<Integer> begun = new ArrayList<>();

        World() { hands.add(new Hand()); }

        World copy() {
            World w = new World();
            w.hands.clear();
            for (Lay l : lays) {
                Lay m = lay(l.kind());
                m.pace = l.pace;
                m.board = l.board;
                m.stack = l.stack;
                w.lays.add(m);
            }
            for (Hand h : hands) {
                Hand m = new Hand();
                m.doing = h.doing;
                m.yet = h.yet;
                m.to = h.to;
                m.mortar = h.mortar;
                w.hands.add(m);
            }
            w.settings = settings.clone();
            w.minute = minute;
            w.laidInAll = laidInAll;
            w.latest = latest;
            return w;
        }

        int hod() { return settings[1]; }

        boolean busy() { return hands.stream().anyMatch(h -> h.yet > 0); }

        void mates(int v) {
            while (hands.size() > v) {
                hands.remove(hands.size() - 1);
            }
            while (hands.size() < v) {
                hands.add(new Hand());
            }
            settings[0] = v;
        }

        void with(int what, int v) {
            if (what == 0) {
                mates(v);
            } else {
                settings[what] = v;
            }
        }

        int muck() { return settings[5] + lays.stream().mapToInt(l -> l.board).sum(); }

        int trips() { return (int) begun.stream().filter(b -> b != 9).count(); }

        int mixes() { return (int) begun.stream().filter(b -> b == 9).count(); }

        World go(int n) {
            for (int i = 0; i < n; i++) {
                minute();
            }
            return this;
        }

        void minute() {
            hands.stream().filter(h -> h.yet == 0).forEach(this::free);
            int standing = 0;
            for (int i = 0; i < lays.size(); i++) {
                Lay l = lays.get(i);
                int would = l.bricks(minute);
                int could = 0;
                while (could < would && l.board >= l.units() && l.stack >= 1) {
                    could++;
                    l.board -= l.units();
                    l.stack--;
                }
                laid += could;
                laidInAll += could;
                if (could < would) {
                    standing++;
                    stoodOf[i]++;
                    if (l.board < (would - could) * l.units()) {
                        mortarFault[i]++;
                    } else {
                        bricksFault[i]++;
                    }
                    if (firstLayer < 0) {
                        firstLayer = i;
                        firstMinute = gone;
                    }
                }
            }
            stood += standing;
            together += standing >= 2 ? 1 : 0;
            hands.stream().filter(h -> h.yet > 0).forEach(this::less);
            minute++;
            gone++;
        }

        void free(Hand h) {
            List<Integer> these = new ArrayList<>();
            for (int i = 0; i < lays.size(); i++) {
                int number = i;
                Lay l = lays.get(i);
                if ((l.board < hod() || l.stack < hod()) && hands.stream().noneMatch(o -> o.doing.equals("up") && o.to == number)) {
                    these.add(i);
                }
            }
            if (these.isEmpty()) {
                return;
            }
            int to = rule(settings[6]).serve(this, these);
            boolean mortar = lays.get(to).board <= lays.get(to).stack;
            if (mortar && settings[5] < hod()) {
                if (gone < mixUntil) {
                    h.doing = "mix";
                    h.yet = settings[3];
                    begun.add(9);
                }
                return;
            }
            if (mortar) {
                settings[5] -= hod();
            }
            h.doing = "up";
            h.yet = settings[2];
            h.to = to;
            h.mortar = mortar;
            latest = to;
            begun.add(to);
        }

        void less(Hand h) {
            h.yet--;
            if (h.yet > 0) {
                return;
            }
            String done = h.doing;
            h.doing = "free";
            if (done.equals("mix")) {
                settings[5] = Math.min(240, settings[5] + settings[4]);
            }
            if (done.equals("up")) {
                Lay l = lays.get(h.to);
                if (h.mortar) {
                    l.board += hod() + water;
                    lost += Math.max(0, l.board - 60);
                    l.board = Math.min(60, l.board);
                } else {
                    l.stack += hod();
                    lost += Math.max(0, l.stack - 240);
                    l.stack = Math.min(240, l.stack);
                }
                h.doing = "down";
                h.yet = settings[2];
            }
        }
    }

    static final int[] LEAST = {1, 10, 1, 1, 20, 0, 0};
    static final int[] GREATEST = {3, 40, 9, 20, 120, 120, 5};

    World now = new World();
    World image;
    String letters = "";
    List<Integer> row = new ArrayList<>();
    int[] refused = new int[7];

    private int no(int refusal) {
        refused[-refusal]++;
        return refusal;
    }

    private int far(int refusal) { return 1000000000 - no(refusal); }

    private World ahead(int n) { return now.copy().go(n); }

    int letter(int c) {
        if (c < 0) return no(-4);
        if (c > 255 || letters.length() == 96) return no(-6);
        letters += (char) c;
        return letters.length();
    }

    int site() {
        String text = letters;
        letters = "";
        String digit = "[0-9]";
        String[] shapes = {"y[lcwtbs]" + digit.repeat(6) + ";", "m" + digit + ";", "h" + digit.repeat(3) + ";",
            "x" + digit.repeat(5) + ";", "u" + digit.repeat(3) + ";", "r[ferqsl];", "n" + digit.repeat(2) + ";"};
        java.util.regex.Pattern all = java.util.regex.Pattern.compile("(" + String.join("|", shapes) + ")+", java.util.regex.Pattern.DOTALL);
        if (!all.matcher(text).matches()) {
            for (int i = 1; i <= text.length(); i++) {
                java.util.regex.Matcher m = all.matcher(text.substring(0, i));
                if (!m.matches() && !m.hitEnd()) return -1000 - (i - 1);
            }
            return -1000 - text.length();
        }
        World w = now.copy();
        int place = 0;
        String[] parts = text.split(";");
        for (String part : parts) {
            if (!comes(w, part)) return -2000 - place;
            place += part.length() + 1;
        }
        w.gone = 0;
        now = w.copy();
        return parts.length;
    }

    private static boolean in(int v, int least, int greatest) { return v >= least && v <= greatest; }

    private static boolean setting(World w, int what, int v) {
        if (!in(v, LEAST[what], GREATEST[what])) return false;
        w.with(what, v);
        return true;
    }

    private static boolean comes(World w, String part) {
        char c = part.charAt(0);
        String rest = part.substring(1);
        if (c == 'r') return setting(w, 6, "ferqsl".indexOf(rest));
        if (c == 'm') return !w.busy() && setting(w, 0, Integer.parseInt(rest));
        if (c == 'u') return setting(w, 5, Integer.parseInt(rest));
        if (c == 'h') return setting(w, 1, Integer.parseInt(rest.substring(0, 2))) && setting(w, 2, Integer.parseInt(rest.substring(2)));
        if (c == 'x') return setting(w, 3, Integer.parseInt(rest.substring(0, 2))) && setting(w, 4, Integer.parseInt(rest.substring(2)));
        if (c == 'n') {
            int n = Integer.parseInt(rest);
            if (!in(n, 1, 60) || w.minute + n > 9999) return false;
            w.go(n);
            return true;
        }
        Lay l = lay("lcwtbs".indexOf(rest.charAt(0)));
        l.pace = rest.charAt(1) - '0';
        l.board = Integer.parseInt(rest.substring(2, 4));
        l.stack = Integer.parseInt(rest.substring(4));
        w.lays.add(l);
        return w.lays.size() <= 4 && in(l.pace, 1, 4) && in(l.board, 0, 60) && in(l.stack, 0, 240);
    }

    private boolean has(int layer) { return in(layer, 0, now.lays.size() - 1); }

    int layer(int layer, int what) {
        if (!has(layer)) return no(-1);
        if (!in(what, 0, 5)) return no(-2);
        Lay l = now.lays.get(layer);
        return new int[] {l.kind(), l.pace, l.board, l.stack, l.bricks(now.minute), l.units()}[what];
    }

    int put(int layer, int what, int v) {
        if (!has(layer)) return no(-1);
        if (!in(what, 0, 1)) return no(-2);
        if (v < 0) return no(-4);
        if (v > (what == 0 ? 60 : 240)) return no(-6);
        Lay l = now.lays.get(layer);
        int was = what == 0 ? l.board : l.stack;
        if (what == 0) l.board = v;
        else l.stack = v;
        return was;
    }

    int set(int what, int v) {
        if (!in(what, 0, 6)) return no(-2);
        if (what == 0 && now.busy()) return no(-3);
        if (v < LEAST[what]) return no(-4);
        if (v > GREATEST[what]) return no(-6);
        int was = now.settings[what];
        now.with(what, v);
        return was;
    }

    int go(int n) {
        if (n < 1) return no(-4);
        if (n > 60 || now.minute + n > 9999) return no(-6);
        int before = now.laidInAll;
        now.go(n);
        return now.laidInAll - before;
    }

    int mates(int mate, int what) {
        if (!in(mate, 0, now.hands.size() - 1)) return no(-1);
        if (!in(what, 0, 2)) return no(-2);
        Hand h = now.hands.get(mate);
        boolean up = h.doing.equals("up");
        return what == 0 ? h.yet : what == 1 ? (up ? h.to : -9) : up && h.mortar ? 1 : 0;
    }

    private static int range(int n, int greatest) { return n < 0 ? -4 : n > greatest ? -6 : 0; }

    private int oneOf(int n, int layer, int what, int whats) {
        if (range(n, 240) != 0) return no(range(n, 240));
        if (!has(layer)) return no(-1);
        return in(what, 0, whats) ? 0 : no(-2);
    }

    int total(int n, int what) {
        if (range(n, 240) != 0) return no(range(n, 240));
        if (!in(what, 0, 5)) return no(-2);
        World w = ahead(n);
        return new int[] {w.laid, w.stood, w.trips(), w.mixes(), w.lost, w.muck()}[what];
    }

    int stood(int n, int layer) {
        int no = oneOf(n, layer, 0, 0);
        return no != 0 ? no : ahead(n).stoodOf[layer];
    }

    int left(int n, int layer, int what) {
        int no = oneOf(n, layer, what, 1);
        if (no != 0) return no;
        Lay l = ahead(n).lays.get(layer);
        return what == 0 ? l.board : l.stack;
    }

    private World with(int what, int v, int n) {
        World w = now.copy();
        w.with(what, v);
        return w.go(n);
    }

    int bestRule(int n) {
        if (range(n, 240) != 0) return no(range(n, 240));
        int best = 0;
        for (int r = 1; r < 6; r++) {
            World old = with(6, best, n);
            World w = with(6, r, n);
            if (w.laid > old.laid || w.laid == old.laid && w.stood < old.stood) best = r;
        }
        return best;
    }

    private int best(int what, int step, int n) {
        if (range(n, 240) != 0) return no(range(n, 240));
        int best = LEAST[what];
        int most = with(what, best, n).laid;
        for (int v = best; v <= GREATEST[what]; v += step) {
            int laid = with(what, v, n).laid;
            if (laid > most) {
                most = laid;
                best = v;
            }
        }
        return best;
    }

    int bestHod(int n) { return best(1, 1, n); }

    int bestBatch(int n) { return best(4, 10, n); }

    int mate(int n) {
        if (range(n, 240) != 0) return far(range(n, 240));
        if (now.hands.size() == 3) return far(-3);
        return with(0, now.hands.size() + 1, n).laid - ahead(n).laid;
    }

    int hoist(int n) {
        if (range(n, 240) != 0) return far(range(n, 240));
        return with(2, 1, n).laid - ahead(n).laid;
    }

    int ahead(int n, int b) {
        if (n < 0 || b < 0) return far(-4);
        if (n > 240 || b > 99) return far(-6);
        World w = now.copy();
        w.lays.forEach(l -> l.stack = Math.min(240, l.stack + b));
        return ahead(n).stood - w.go(n).stood;
    }

    int inStep(int n) {
        if (range(n, 240) != 0) return no(range(n, 240));
        return ahead(n).together;
    }

    int keeps(int n) {
        if (range(n, 240) != 0) return no(range(n, 240));
        int most = 0;
        for (int k = 0; k <= now.lays.size(); k++) {
            World w = now.copy();
            w.lays = new ArrayList<>(w.lays.subList(0, k));
            int mates = w.hands.size();
            w.hands.clear();
            w.mates(mates);
            if (w.go(n).stood == 0) most = k;
        }
        return most;
    }

    int emptyFirst(int what) {
        if (!in(what, 0, 1)) return no(-2);
        World w = ahead(240);
        return what == 0 ? w.firstLayer : w.firstMinute;
    }

    int tea(int n, int what) {
        if (range(n, 60) != 0) return no(range(n, 60));
        if (!in(what, 0, 1)) return no(-2);
        for (int k = 0; ; k++) {
            World w = now.copy();
            w.mixUntil = k;
            w.go(n);
            if (w.laid >= ahead(n).laid) return what == 0 ? k : w.muck();
        }
    }

    int fault(int n, int layer, int what) {
        int no = oneOf(n, layer, what, 1);
        if (no != 0) return no;
        World w = ahead(n);
        return what == 0 ? w.mortarFault[layer] : w.bricksFault[layer];
    }

    int watered(int n, int water, int what) {
        if (n < 0 || water < 0) return far(-4);
        if (n > 240 || water > 9) return far(-6);
        if (!in(what, 0, 1)) return far(-2);
        World w = now.copy();
        w.water = water;
        w.go(n);
        return what == 0 ? w.laid - ahead(n).laid : w.laid * water / (now.hod() + water);
    }

    int badly() {
        if (row.size() % 2 == 1) return no(-3);
        int bits = 0;
        for (int k = 0; k < 6; k++) {
            boolean so = true;
            for (int i = 0; i < row.size(); i += 2) {
                so &= row.get(i) * lay(k).units() == row.get(i + 1);
            }
            bits += so ? 1 << k : 0;
        }
        return bits;
    }

    int row(int v) {
        if (v < 0) return no(-4);
        if (v > 99 || row.size() == 20) return no(-6);
        row.add(v);
        return row.size();
    }

    int judge() {
        List<Integer> told = row;
        row = new ArrayList<>();
        List<Integer> begun = ahead(240).begun;
        for (int i = 0; i < told.size(); i++) {
            if (i >= begun.size() || !begun.get(i).equals(told.get(i))) return i;
        }
        return -9;
    }

    private int seed;

    private int draw(int below) {
        seed = (int) (seed * 1664525L + 1013904223L);
        return (int) ((seed & 0x7fffffffL) >> 8) % below;
    }

    int lots(int n, int z) {
        if (n < 1) return no(-4);
        if (n > 20) return no(-6);
        seed = z;
        int stood = 0;
        for (int i = 0; i < n; i++) {
            World w = now.copy();
            for (Lay l : w.lays) {
                l.board = draw(61);
                l.stack = draw(100);
            }
            stood += w.go(60).stood;
        }
        return stood;
    }

    int image() {
        image = now.copy();
        return now.minute;
    }

    int on() {
        if (image == null) return no(-3);
        now = image.copy();
        return now.minute;
    }

    int count(int what) {
        if (what >= 11 && what <= 16) return refused[what - 10];
        int[] all = {now.lays.size(), now.hands.size(), now.minute, now.settings[5], now.laidInAll, now.settings[6], now.latest,
            row.size(), letters.length()};
        return in(what, 0, 8) ? all[what] : -9;
    }
}
