/**
 * A building site: layers who lay bricks with mortar off a board, and mates who mix it and carry
 * hods of mortar or of bricks up ladders, minute by minute; and what would come of it, in mind.
 */
public final class MuckForFour {
    private static final int NOBODY = -1;
    private static final int OTHER = -2;
    private static final int STATE = -3;
    private static final int BELOW = -4;
    private static final int ROOM = -6;
    private static final int NONE = -9;
    private static final int REFUSAL_KINDS = 6;
    /** Where an answer may be below 0 by itself, a refusal is told as this less the refusal. */
    private static final int REFUSAL_BASE = 1000000000;

    private static final int MOST_LAYERS = 4;
    private static final int MOST_MATES = 3;
    private static final int MOST_LETTERS = 96;
    private static final int MOST_IN_ROW = 20;
    private static final int ROW_GREATEST = 99;
    private static final int MOST_ON_BOARD = 60;
    private static final int MOST_ON_STACK = 240;
    private static final int MOST_MIXED = 240;
    private static final int LONGEST_GO = 60;
    private static final int LONGEST_IN_MIND = 240;
    private static final int LONGEST_TEA = 60;
    private static final int LAST_MINUTE = 9999;
    private static final int MOST_AHEAD = 99;
    private static final int MOST_WATER = 9;
    private static final int MOST_LOTS = 20;
    private static final int LOT_MINUTES = 60;
    /** How a row tells a mixing: no layer has this number. */
    private static final int A_MIXING = 9;
    /** A minute that no pass comes to. */
    private static final int NEVER = 1000000;
    private static final int ALL_BITS_BUT_THE_SIGN = 0x7fffffff;

    private static final int MATES = 0;
    private static final int HOD = 1;
    private static final int LADDER = 2;
    private static final int MIXING = 3;
    private static final int BATCH = 4;
    private static final int MUCK = 5;
    private static final int RULE = 6;
    private static final int[] SETTING_LEAST = {1, 10, 1, 1, 20, 0, 0};
    private static final int[] SETTING_GREATEST = {3, 40, 9, 20, 120, 120, 5};

    private static final int CORNER = 1;
    private static final int WASTER = 2;
    private static final int TALKER = 3;
    private static final int BOTCHER = 4;
    private static final int STEADY = 5;
    private static final int LAYER_KINDS = 6;
    private static final String LAYER_LETTERS = "lcwtbs";

    private static final int EMPTY = 1;
    private static final int ROUND = 2;
    private static final int QUICK = 3;
    private static final int SOON = 4;
    private static final int LAST = 5;
    private static final String RULE_LETTERS = "ferqsl";

    private final Site now = new Site();
    /** The one site in mind, used again by every call, so that no call makes objects. */
    private final Site mind = new Site();
    private final Site taken = new Site();
    private boolean isTaken = false;
    private final Text text = new Text();
    private final int[] told = new int[MOST_IN_ROW];
    private int toldCount = 0;
    private final int[] refusals = new int[REFUSAL_KINDS];

    public MuckForFour() {
    }

    public int letter(int c) {
        if (c < 0) {
            return refuse(BELOW);
        }
        if (c > 255 || text.length >= MOST_LETTERS) {
            return refuse(ROOM);
        }
        text.add(c);
        return text.length;
    }

    public int site() {
        int fault = text.shapeFault();
        if (fault >= 0) {
            text.length = 0;
            return -1000 - fault;
        }
        mind.become(now);
        int place = 0;
        int statements = 0;
        while (place < text.length && statements < MOST_LETTERS) {
            if (!statementComes(place)) {
                text.length = 0;
                return -2000 - place;
            }
            place += text.statementLength(place);
            statements++;
        }
        now.become(mind);
        text.length = 0;
        return statements;
    }

    public int layer(int layer, int what) {
        if (!now.hasLayer(layer)) {
            return refuse(NOBODY);
        }
        Layer one = now.layers[layer];
        switch (what) {
            case 0: return one.kind;
            case 1: return one.pace;
            case 2: return one.board;
            case 3: return one.stack;
            case 4: return one.wants(now.minute);
            case 5: return one.units;
            default: return refuse(OTHER);
        }
    }

    public int put(int layer, int what, int v) {
        if (!now.hasLayer(layer)) {
            return refuse(NOBODY);
        }
        if (what < 0 || what > 1) {
            return refuse(OTHER);
        }
        int no = outside(v, 0, what == 0 ? MOST_ON_BOARD : MOST_ON_STACK);
        if (no != 0) {
            return refuse(no);
        }
        Layer one = now.layers[layer];
        int was = what == 0 ? one.board : one.stack;
        if (what == 0) {
            one.board = v;
        } else {
            one.stack = v;
        }
        return was;
    }

    public int set(int what, int v) {
        if (what < MATES || what > RULE) {
            return refuse(OTHER);
        }
        if (what == MATES && now.anyBusy()) {
            return refuse(STATE);
        }
        int no = outside(v, SETTING_LEAST[what], SETTING_GREATEST[what]);
        if (no != 0) {
            return refuse(no);
        }
        int was = now.setting(what);
        now.change(what, v);
        return was;
    }

    public int go(int n) {
        if (!now.hasTimeFor(n)) {
            return refuse(n < 1 ? BELOW : ROOM);
        }
        now.pass(n);
        return now.tally.laid;
    }

    public int mates(int mate, int what) {
        if (mate < 0 || mate >= now.mateCount) {
            return refuse(NOBODY);
        }
        Mate one = now.mates[mate];
        switch (what) {
            case 0: return one.minutes;
            case 1: return one.to;
            case 2: return one.hasMortar ? 1 : 0;
            default: return refuse(OTHER);
        }
    }

    public int total(int n, int what) {
        int no = outside(n, 0, LONGEST_IN_MIND);
        if (no == 0 && (what < 0 || what > 5)) {
            no = OTHER;
        }
        if (no != 0) {
            return refuse(no);
        }
        foresee(n);
        switch (what) {
            case 0: return mind.tally.laid;
            case 1: return mind.tally.stood;
            case 2: return mind.tally.trips;
            case 3: return mind.tally.mixes;
            case 4: return mind.tally.lost;
            default: return mind.muckLeft();
        }
    }

    public int stood(int n, int layer) {
        int no = outside(n, 0, LONGEST_IN_MIND);
        if (no == 0 && !now.hasLayer(layer)) {
            no = NOBODY;
        }
        if (no != 0) {
            return refuse(no);
        }
        foresee(n);
        return mind.layers[layer].stood;
    }

    public int left(int n, int layer, int what) {
        int no = refusalOfLayerInMind(n, layer, what);
        if (no != 0) {
            return refuse(no);
        }
        foresee(n);
        Layer one = mind.layers[layer];
        return what == 0 ? one.board : one.stack;
    }

    public int bestRule(int n) {
        int no = outside(n, 0, LONGEST_IN_MIND);
        if (no != 0) {
            return refuse(no);
        }
        int best = 0;
        int mostLaid = -1;
        int leastStood = 0;
        for (int rule = 0; rule <= SETTING_GREATEST[RULE]; rule++) {
            int laid = laidWith(RULE, rule, n);
            int stood = mind.tally.stood;
            if (laid > mostLaid || laid == mostLaid && stood < leastStood) {
                best = rule;
                mostLaid = laid;
                leastStood = stood;
            }
        }
        return best;
    }

    public int bestHod(int n) {
        int no = outside(n, 0, LONGEST_IN_MIND);
        return no != 0 ? refuse(no) : bestSetting(HOD, 1, n);
    }

    public int bestBatch(int n) {
        int no = outside(n, 0, LONGEST_IN_MIND);
        return no != 0 ? refuse(no) : bestSetting(BATCH, 10, n);
    }

    public int mate(int n) {
        int no = outside(n, 0, LONGEST_IN_MIND);
        if (no == 0 && now.mateCount >= MOST_MATES) {
            no = STATE;
        }
        if (no != 0) {
            return REFUSAL_BASE - refuse(no);
        }
        return laidWith(MATES, now.mateCount + 1, n) - laidAsItIs(n);
    }

    public int hoist(int n) {
        int no = outside(n, 0, LONGEST_IN_MIND);
        if (no != 0) {
            return REFUSAL_BASE - refuse(no);
        }
        return laidWith(LADDER, 1, n) - laidAsItIs(n);
    }

    public int ahead(int n, int b) {
        int no = outsideEither(n, b, MOST_AHEAD);
        if (no != 0) {
            return REFUSAL_BASE - refuse(no);
        }
        foresee(n);
        int stoodWithout = mind.tally.stood;
        mind.become(now);
        for (int i = 0; i < mind.layerCount; i++) {
            mind.layers[i].receiveBricks(b);
        }
        mind.pass(n);
        return stoodWithout - mind.tally.stood;
    }

    public int inStep(int n) {
        int no = outside(n, 0, LONGEST_IN_MIND);
        if (no != 0) {
            return refuse(no);
        }
        foresee(n);
        return mind.tally.stoodTogether;
    }

    public int keeps(int n) {
        int no = outside(n, 0, LONGEST_IN_MIND);
        if (no != 0) {
            return refuse(no);
        }
        // fewer layers need not stand less (they may be served in another order), so the most is asked first
        for (int layers = now.layerCount; layers > 0; layers--) {
            mind.become(now);
            mind.layerCount = layers;
            mind.freeMates();
            mind.pass(n);
            if (mind.tally.stood == 0) {
                return layers;
            }
        }
        return 0;
    }

    public int emptyFirst(int what) {
        if (what < 0 || what > 1) {
            return refuse(OTHER);
        }
        foresee(LONGEST_IN_MIND);
        return what == 0 ? mind.tally.firstToStand : mind.tally.firstStoodAt;
    }

    public int tea(int n, int what) {
        int no = outside(n, 0, LONGEST_TEA);
        if (no == 0 && (what < 0 || what > 1)) {
            no = OTHER;
        }
        if (no != 0) {
            return refuse(no);
        }
        int laid = laidAsItIs(n);
        int least = 0;
        passWithMixing(least, n);
        while (least < n && mind.tally.laid < laid) {
            least++;
            passWithMixing(least, n);
        }
        return what == 0 ? least : mind.muckLeft();
    }

    public int fault(int n, int layer, int what) {
        int no = refusalOfLayerInMind(n, layer, what);
        if (no != 0) {
            return refuse(no);
        }
        foresee(n);
        Layer one = mind.layers[layer];
        return what == 0 ? one.stoodForMortar : one.stood - one.stoodForMortar;
    }

    public int watered(int n, int w, int what) {
        int no = outsideEither(n, w, MOST_WATER);
        if (no == 0 && (what < 0 || what > 1)) {
            no = OTHER;
        }
        if (no != 0) {
            return REFUSAL_BASE - refuse(no);
        }
        int laidWithout = laidAsItIs(n);
        mind.become(now);
        mind.water = w;
        mind.pass(n);
        int laid = mind.tally.laid;
        return what == 0 ? laid - laidWithout : weakOf(laid, w, now.hod + w);
    }

    public int badly() {
        if (toldCount % 2 != 0) {
            return refuse(STATE);
        }
        int kinds = 0;
        for (int kind = 0; kind < LAYER_KINDS; kind++) {
            if (rowFitsUnits(unitsOf(kind))) {
                kinds |= 1 << kind;
            }
        }
        return kinds;
    }

    public int row(int v) {
        if (v < 0) {
            return refuse(BELOW);
        }
        if (v > ROW_GREATEST || toldCount >= MOST_IN_ROW) {
            return refuse(ROOM);
        }
        told[toldCount] = v;
        toldCount++;
        return toldCount;
    }

    public int judge() {
        foresee(LONGEST_IN_MIND);
        int answer = NONE;
        for (int i = 0; i < toldCount && answer == NONE; i++) {
            if (i >= mind.tally.begunCount || mind.tally.begun[i] != told[i]) {
                answer = i;
            }
        }
        toldCount = 0;
        return answer;
    }

    public int lots(int n, int z) {
        int no = outside(n, 1, MOST_LOTS);
        if (no != 0) {
            return refuse(no);
        }
        int seed = z;
        int stood = 0;
        for (int lot = 0; lot < n; lot++) {
            mind.become(now);
            for (int i = 0; i < mind.layerCount; i++) {
                seed = nextSeed(seed);
                mind.layers[i].board = draw(seed, 61);
                seed = nextSeed(seed);
                mind.layers[i].stack = draw(seed, 100);
            }
            mind.pass(LOT_MINUTES);
            stood += mind.tally.stood;
        }
        return stood;
    }

    public int image() {
        taken.become(now);
        isTaken = true;
        return now.minute;
    }

    public int on() {
        if (!isTaken) {
            return refuse(STATE);
        }
        now.become(taken);
        return now.minute;
    }

    public int count(int what) {
        switch (what) {
            case 0: return now.layerCount;
            case 1: return now.mateCount;
            case 2: return now.minute;
            case 3: return now.muck;
            case 4: return now.laidInAll;
            case 5: return now.rule;
            case 6: return now.servedLatest;
            case 7: return toldCount;
            case 8: return text.length;
            default: return what > 10 && what <= 10 + REFUSAL_KINDS ? refusals[what - 11] : NONE;
        }
    }

    /** Counts a refusal and answers it. */
    private int refuse(int refusal) {
        int index = -refusal - 1;
        if (index >= 0 && index < refusals.length) {
            refusals[index]++;
        }
        return refusal;
    }

    /** 0 for a number in range, else the refusal that it is due. */
    private static int outside(int v, int least, int greatest) {
        if (v < least) {
            return BELOW;
        }
        return v > greatest ? ROOM : 0;
    }

    /** As outside, of minutes in mind and one number more: both are looked at for BELOW before ROOM. */
    private static int outsideEither(int n, int v, int greatest) {
        if (n < 0 || v < 0) {
            return BELOW;
        }
        return n > LONGEST_IN_MIND || v > greatest ? ROOM : 0;
    }

    private int refusalOfLayerInMind(int n, int layer, int what) {
        int no = outside(n, 0, LONGEST_IN_MIND);
        if (no == 0 && !now.hasLayer(layer)) {
            no = NOBODY;
        }
        if (no == 0 && (what < 0 || what > 1)) {
            no = OTHER;
        }
        return no;
    }

    private void foresee(int n) {
        mind.become(now);
        mind.pass(n);
    }

    private int laidAsItIs(int n) {
        foresee(n);
        return mind.tally.laid;
    }

    private int laidWith(int setting, int v, int n) {
        mind.become(now);
        mind.change(setting, v);
        mind.pass(n);
        return mind.tally.laid;
    }

    private void passWithMixing(int minutesOfMixing, int n) {
        mind.become(now);
        mind.mixingEnds = minutesOfMixing;
        mind.pass(n);
    }

    private int bestSetting(int setting, int step, int n) {
        int best = SETTING_LEAST[setting];
        int mostLaid = -1;
        for (int v = SETTING_LEAST[setting]; v <= SETTING_GREATEST[setting]; v += step) {
            int laid = laidWith(setting, v, n);
            if (laid > mostLaid) {
                best = v;
                mostLaid = laid;
            }
        }
        return best;
    }

    private static int weakOf(int laid, int water, int unitsInHod) {
        return unitsInHod > 0 ? laid * water / unitsInHod : 0;
    }

    private boolean rowFitsUnits(int units) {
        for (int i = 0; i + 1 < toldCount; i += 2) {
            if (told[i] * units != told[i + 1]) {
                return false;
            }
        }
        return true;
    }

    private static int nextSeed(int seed) {
        return seed * 1664525 + 1013904223;
    }

    private static int draw(int seed, int below) {
        return below > 0 ? (seed & ALL_BITS_BUT_THE_SIGN) / 256 % below : 0;
    }

    private static int unitsOf(int kind) {
        return kind == WASTER || kind == BOTCHER ? 2 : 1;
    }

    /** Lets the statement at a place come to the site in mind; false, if it is not as it must be. */
    private boolean statementComes(int place) {
        switch (text.at(place)) {
            case 'y':
                return mind.addLayer(LAYER_LETTERS.indexOf((char) text.at(place + 1)), text.number(place + 2, 1),
                        text.number(place + 3, 2), text.number(place + 5, 3));
            case 'm':
                return !mind.anyBusy() && settingComes(MATES, text.number(place + 1, 1));
            case 'h':
                return settingComes(HOD, text.number(place + 1, 2)) && settingComes(LADDER, text.number(place + 3, 1));
            case 'x':
                return settingComes(MIXING, text.number(place + 1, 2)) && settingComes(BATCH, text.number(place + 3, 3));
            case 'u':
                return settingComes(MUCK, text.number(place + 1, 3));
            case 'r':
                return settingComes(RULE, RULE_LETTERS.indexOf((char) text.at(place + 1)));
            default:
                break;
        }
        int n = text.number(place + 1, 2);
        if (!mind.hasTimeFor(n)) {
            return false;
        }
        mind.pass(n);
        return true;
    }

    private boolean settingComes(int setting, int v) {
        if (outside(v, SETTING_LEAST[setting], SETTING_GREATEST[setting]) != 0) {
            return false;
        }
        mind.change(setting, v);
        return true;
    }

    /** The letters told so far, and the shapes of statements in them. */
    private static final class Text {
        private final int[] letters = new int[MOST_LETTERS];
        private int length = 0;

        void add(int c) {
            if (length < letters.length) {
                letters[length] = c;
                length++;
            }
        }

        int at(int place) {
            return place >= 0 && place < length ? letters[place] : -1;
        }

        int number(int place, int digits) {
            int v = 0;
            for (int i = 0; i < digits; i++) {
                v = v * 10 + at(place + i) - '0';
            }
            return v;
        }

        /** The place of the first letter with which no site can go on, or of the end; -1 if all is shaped well. */
        int shapeFault() {
            int place = 0;
            for (int statements = 0; statements < MOST_LETTERS; statements++) {
                int fault = statementFault(place);
                if (fault >= 0) {
                    return fault;
                }
                place += statementLength(place);
                if (place >= length) {
                    return -1;
                }
            }
            return place;
        }

        /** As shapeFault, of the statement that begins at a place. */
        private int statementFault(int start) {
            int last = start + statementLength(start) - 1;
            if (last < start) {
                return start;
            }
            for (int i = start + 1; i < last; i++) {
                if (!fits(i, start)) {
                    return i;
                }
            }
            return at(last) == ';' ? -1 : last;
        }

        /** How many letters a statement has that begins as this one does, with its ";"; 0 if none begins so. */
        int statementLength(int start) {
            switch (at(start)) {
                case 'y': return 9;
                case 'm': return 3;
                case 'h': return 5;
                case 'x': return 7;
                case 'u': return 5;
                case 'r': return 3;
                case 'n': return 4;
                default: return 0;
            }
        }

        private boolean fits(int place, int start) {
            int c = at(place);
            if (c < 0) {
                return false;
            }
            if (place == start + 1 && at(start) == 'y') {
                return LAYER_LETTERS.indexOf((char) c) >= 0;
            }
            if (place == start + 1 && at(start) == 'r') {
                return RULE_LETTERS.indexOf((char) c) >= 0;
            }
            return c >= '0' && c <= '9';
        }
    }

    /** One who lays, with what lies beside him. */
    private static final class Layer {
        private int kind = 0;
        private int pace = 1;
        /** Bricks in a minute in which he does not talk, and units a brick: both by kind and pace, 1 at least. */
        private int usual = 1;
        private int units = 1;
        private int board = 0;
        private int stack = 0;
        /** Minutes stood since the latest pass began, and those of them for want of mortar. */
        private int stood = 0;
        private int stoodForMortar = 0;

        void become(Layer other) {
            kind = other.kind;
            pace = other.pace;
            usual = other.usual;
            units = other.units;
            board = other.board;
            stack = other.stack;
        }

        void begin(int ofKind, int atPace, int onBoard, int onStack) {
            kind = ofKind;
            pace = atPace;
            usual = usualOf(ofKind, atPace);
            units = unitsOf(ofKind);
            board = onBoard;
            stack = onStack;
        }

        private static int usualOf(int kind, int pace) {
            switch (kind) {
                case CORNER: return (pace + 1) / 2;
                case STEADY: return (pace + 1) / 2 + 1;
                case BOTCHER: return pace + 1;
                default: return pace;
            }
        }

        int wants(int minute) {
            return kind == TALKER && minute % 5 == 0 ? 0 : usual;
        }

        /** Minutes that both board and stack last. */
        int lasts() {
            if (usual < 1 || units < 1) {
                return 0;
            }
            return Math.min(board / (usual * units), stack / usual);
        }

        /** Lays this minute's bricks, and notes whether he stood: how many. */
        int lay(int minute) {
            int wanted = wants(minute);
            int byBoard = units < 1 ? 0 : board / units;
            int bricks = Math.min(wanted, Math.min(byBoard, stack));
            if (bricks < wanted) {
                stood++;
            }
            if (byBoard < wanted) {
                stoodForMortar++;
            }
            board -= bricks * units;
            stack -= bricks;
            return bricks;
        }

        /** What comes on the board; answers what is lost by that. */
        int receiveMortar(int amount) {
            int all = board + amount;
            board = Math.min(all, MOST_ON_BOARD);
            return all - board;
        }

        /** What comes on the stack; answers what is lost by that. */
        int receiveBricks(int amount) {
            int all = stack + amount;
            stack = Math.min(all, MOST_ON_STACK);
            return all - stack;
        }
    }

    /** One who mixes and carries. */
    private static final class Mate {
        private static final int FREE = 0;
        private static final int MIXES = 1;
        private static final int UP = 2;
        private static final int DOWN = 3;

        private int doing = FREE;
        private int minutes = 0;
        /** Whom he goes up to; nobody, unless he is on his way up. */
        private int to = NONE;
        private boolean hasMortar = false;

        void become(Mate other) {
            doing = other.doing;
            minutes = other.minutes;
            to = other.to;
            hasMortar = other.hasMortar;
        }

        void begin(int what, int forMinutes) {
            doing = what;
            minutes = forMinutes;
            to = NONE;
            hasMortar = false;
        }

        void climb(int layer, boolean withMortar, int forMinutes) {
            doing = UP;
            minutes = forMinutes;
            to = layer;
            hasMortar = withMortar;
        }
    }

    /** What is counted from the beginning of a pass of minutes. */
    private static final class Tally {
        private int minutes;
        private int laid;
        private int stood;
        private int stoodTogether;
        private int firstToStand;
        private int firstStoodAt;
        private int trips;
        private int mixes;
        private int lost;
        /** What mates began one behind the other: layers served, or mixings; no more than a row can tell. */
        private final int[] begun = new int[MOST_IN_ROW];
        private int begunCount;

        void clear() {
            minutes = 0;
            laid = 0;
            stood = 0;
            stoodTogether = 0;
            firstToStand = NONE;
            firstStoodAt = NONE;
            trips = 0;
            mixes = 0;
            lost = 0;
            begunCount = 0;
        }

        void noteBegun(int what) {
            if (what == A_MIXING) {
                mixes++;
            } else {
                trips++;
            }
            if (begunCount < begun.length) {
                begun[begunCount] = what;
                begunCount++;
            }
        }

        void noteStanding(int standing, int first) {
            stood += standing;
            if (standing > 1) {
                stoodTogether++;
            }
            if (standing > 0 && firstToStand == NONE) {
                firstToStand = first;
                firstStoodAt = minutes;
            }
        }
    }

    /** All that there is on a site, and how a minute goes by on it. */
    private static final class Site {
        private final Layer[] layers = new Layer[MOST_LAYERS];
        private int layerCount = 0;
        private final Mate[] mates = new Mate[MOST_MATES];
        private int mateCount = 1;
        private int hod = 20;
        private int ladder = 3;
        private int mixing = 9;
        private int batch = 60;
        private int muck = 0;
        private int rule = 0;
        private int minute = 0;
        private int laidInAll = 0;
        private int servedLatest = NONE;
        /** Units of water in each hod of mortar that arrives: in mind alone. */
        private int water = 0;
        /** From this minute of a pass on nobody begins to mix: in mind alone. */
        private int mixingEnds = NEVER;
        private final Tally tally = new Tally();

        Site() {
            for (int i = 0; i < MOST_LAYERS; i++) {
                layers[i] = new Layer();
            }
            for (int i = 0; i < MOST_MATES; i++) {
                mates[i] = new Mate();
            }
        }

        void become(Site other) {
            layerCount = other.layerCount;
            for (int i = 0; i < MOST_LAYERS; i++) {
                layers[i].become(other.layers[i]);
            }
            mateCount = other.mateCount;
            for (int i = 0; i < MOST_MATES; i++) {
                mates[i].become(other.mates[i]);
            }
            hod = other.hod;
            ladder = other.ladder;
            mixing = other.mixing;
            batch = other.batch;
            muck = other.muck;
            rule = other.rule;
            minute = other.minute;
            laidInAll = other.laidInAll;
            servedLatest = other.servedLatest;
            water = 0;
            mixingEnds = NEVER;
        }

        boolean hasLayer(int number) {
            return number >= 0 && number < layerCount;
        }

        boolean hasTimeFor(int n) {
            return n >= 1 && n <= LONGEST_GO && minute + n <= LAST_MINUTE;
        }

        boolean anyBusy() {
            for (int i = 0; i < mateCount; i++) {
                if (mates[i].doing != Mate.FREE) {
                    return true;
                }
            }
            return false;
        }

        void freeMates() {
            for (int i = 0; i < MOST_MATES; i++) {
                mates[i].begin(Mate.FREE, 0);
            }
        }

        int setting(int what) {
            switch (what) {
                case MATES: return mateCount;
                case HOD: return hod;
                case LADDER: return ladder;
                case MIXING: return mixing;
                case BATCH: return batch;
                case MUCK: return muck;
                default: return rule;
            }
        }

        void change(int what, int v) {
            switch (what) {
                case MATES:
                    mateCount = v;
                    break;
                case HOD:
                    hod = v;
                    break;
                case LADDER:
                    ladder = v;
                    break;
                case MIXING:
                    mixing = v;
                    break;
                case BATCH:
                    batch = v;
                    break;
                case MUCK:
                    muck = v;
                    break;
                default:
                    rule = v;
            }
        }

        /** One layer more; false, if there is no room or a number is out of range. */
        boolean addLayer(int kind, int pace, int board, int stack) {
            if (layerCount >= MOST_LAYERS || outside(pace, 1, 4) != 0 || outside(board, 0, MOST_ON_BOARD) != 0
                    || outside(stack, 0, MOST_ON_STACK) != 0) {
                return false;
            }
            layers[layerCount].begin(kind, pace, board, stack);
            layerCount++;
            return true;
        }

        int muckLeft() {
            int all = muck;
            for (int i = 0; i < layerCount; i++) {
                all += layers[i].board;
            }
            return all;
        }

        void pass(int n) {
            tally.clear();
            for (int i = 0; i < layerCount; i++) {
                layers[i].stood = 0;
                layers[i].stoodForMortar = 0;
            }
            while (tally.minutes < n) {
                for (int i = 0; i < mateCount; i++) {
                    if (mates[i].doing == Mate.FREE) {
                        send(mates[i], choose());
                    }
                }
                allLay();
                for (int i = 0; i < mateCount; i++) {
                    if (mates[i].doing != Mate.FREE) {
                        spendMinute(mates[i]);
                    }
                }
                minute++;
                tally.minutes++;
            }
            laidInAll += tally.laid;
        }

        private void send(Mate mate, int chosen) {
            if (!hasLayer(chosen)) {
                return;
            }
            boolean withMortar = layers[chosen].board <= layers[chosen].stack;
            if (withMortar && muck < hod) {
                if (tally.minutes < mixingEnds) {
                    mate.begin(Mate.MIXES, mixing);
                    tally.noteBegun(A_MIXING);
                }
                return;
            }
            if (withMortar) {
                muck -= hod;
            }
            mate.climb(chosen, withMortar, ladder);
            servedLatest = chosen;
            tally.noteBegun(chosen);
        }

        /** Whom a free mate serves by the rule; NONE, if he waits. */
        private int choose() {
            int chosen = NONE;
            int least = 0;
            for (int i = 0; i < layerCount; i++) {
                if (needs(i)) {
                    int rank = rank(i);
                    if (chosen == NONE || rank < least) {
                        chosen = i;
                        least = rank;
                    }
                }
            }
            return chosen;
        }

        private boolean needs(int number) {
            if (layers[number].board >= hod && layers[number].stack >= hod) {
                return false;
            }
            for (int i = 0; i < mateCount; i++) {
                if (mates[i].to == number) {
                    return false;
                }
            }
            return true;
        }

        /** The less, the sooner the rule has this layer served; alike ones go by their numbers. */
        private int rank(int number) {
            Layer one = layers[number];
            switch (rule) {
                case EMPTY: return one.board < one.stack ? one.board : one.stack;
                case ROUND: return number > servedLatest ? number : number + MOST_LAYERS;
                case QUICK: return -one.pace;
                case SOON: return one.lasts();
                case LAST: return -number;
                default: return number;
            }
        }

        private void allLay() {
            int standing = 0;
            int first = NONE;
            for (int i = 0; i < layerCount; i++) {
                int stoodBefore = layers[i].stood;
                tally.laid += layers[i].lay(minute);
                if (layers[i].stood > stoodBefore) {
                    standing++;
                    first = first == NONE ? i : first;
                }
            }
            tally.noteStanding(standing, first);
        }

        /** A busy mate's minute goes by, and what comes by that comes. */
        private void spendMinute(Mate mate) {
            mate.minutes--;
            if (mate.minutes > 0) {
                return;
            }
            if (mate.doing == Mate.UP) {
                unload(mate);
                mate.begin(Mate.DOWN, ladder);
                return;
            }
            if (mate.doing == Mate.MIXES) {
                muck = Math.min(muck + batch, MOST_MIXED);
            }
            mate.begin(Mate.FREE, 0);
        }

        private void unload(Mate mate) {
            if (!hasLayer(mate.to)) {
                return;
            }
            Layer one = layers[mate.to];
            tally.lost += mate.hasMortar ? one.receiveMortar(hod + water) : one.receiveBricks(hod);
        }
    }
}
