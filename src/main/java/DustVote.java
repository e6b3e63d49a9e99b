/**
 * A city of eight streets in a ring, its dust, and its brooms, some of whom are on strike
 * until they have the vote back. The document is ../shared/DOC.md; words of it that stand
 * there in capitals keep their meaning here.
 */
public final class DustVote {
    public static final int UNKNOWN = -1, OUTSIDE = -2, STATE = -3, FULL = -4, NONE = -9;

    private static final int STREETS = 8;
    private static final int MOST_LETTERS = 48;
    private static final int MOST_BROOMS = 5;
    private static final int MOST_FALLS = 5;
    private static final int MOST_DUST = 99;
    private static final int KNEE_DEEP = 10;
    private static final int MOST_ACTS = 14;
    private static final int MOST_HEAPS = 6;
    private static final int SLOTS = 2;

    private static final int PLAIN = 0, STRIKER = 1, BESOM = 2, LEANER = 3;
    private static final int AS_NOTHING = 3;
    private static final int EVERYBODY = 31;

    private static final int MOST_DAWNS_TOLD = 30;
    private static final int MOST_DAWNS_TRIED = 9;
    private static final int MOST_DAWNS_BY_CHANCE = 6;
    private static final int MOST_DOINGS = 4;
    private static final int MOST_YEARS = 30;
    private static final int DAWNS_OF_A_SHARE = 6;
    private static final int DAWNS_OF_A_REST = 3;

    private static final long SEED_TIMES = 6364136223846793005L;
    private static final long SEED_AND = 1442695040888963407L;

    /** Numbers by which a moment is kept: dust, where brooms are, the vote, who bent, the dawn. */
    private static final int CELLS = STREETS + MOST_BROOMS + 3;

    private final Script script;
    private final Told told;
    private final Moment now;
    private final Moment trial;
    private final ActRow acts;
    private final Heaps heaps;
    private final int[] slots;
    private final boolean[] filled;
    private long chance;

    public DustVote() {
        script = new Script();
        told = new Told();
        now = new Moment(told);
        trial = new Moment(told);
        acts = new ActRow();
        heaps = new Heaps();
        slots = new int[SLOTS * CELLS];
        filled = new boolean[SLOTS];
        chance = 0L;
    }

    // ---- the city

    public int write(int letter) {
        if (!within(letter, 0, 255)) {
            return OUTSIDE;
        }
        if (script.length >= MOST_LETTERS) {
            return FULL;
        }
        script.add(letter);
        return script.length;
    }

    public int wipe() {
        int was = script.length;
        script.length = 0;
        return was;
    }

    public int fault() {
        return script.firstFault();
    }

    public int city() {
        if (script.firstFault() != NONE) {
            return STATE;
        }
        told.read(script);
        now.begin();
        acts.clear();
        for (int slot = 0; slot < SLOTS; slot++) {
            filled[slot] = false;
        }
        return 10 * told.brooms + told.falls;
    }

    public int street(int street, int what) {
        if (!isStreet(street)) {
            return UNKNOWN;
        }
        switch (what) {
            case 0:
                return now.dustIn(street);
            case 1:
                return now.isDeep(street) ? 1 : 0;
            case 2:
                return now.broomsIn(street);
            default:
                return OUTSIDE;
        }
    }

    public int broom(int broom, int what) {
        if (!told.hasBroom(broom)) {
            return UNKNOWN;
        }
        switch (what) {
            case 0:
                return now.placeOf(broom);
            case 1:
                return told.strengthOf(broom);
            case 2:
                return told.kindOf(broom);
            case 3:
                return now.isBent(broom) ? 1 : 0;
            case 4:
                return now.worksAs(broom);
            default:
                return OUTSIDE;
        }
    }

    // ---- acts

    public int dawn() {
        acts.push(now);
        now.passDawn(EVERYBODY, 1);
        return now.allDust();
    }

    public int walk(int broom, int side) {
        if (!told.hasBroom(broom)) {
            return UNKNOWN;
        }
        if (!within(side, 0, 1)) {
            return OUTSIDE;
        }
        acts.push(now);
        now.step(broom, side);
        return now.placeOf(broom);
    }

    public int vote() {
        acts.push(now);
        now.turnVote();
        return now.given ? 1 : 0;
    }

    public int bend(int broom) {
        if (!told.hasBroom(broom)) {
            return UNKNOWN;
        }
        if (now.isBent(broom)) {
            return STATE;
        }
        acts.push(now);
        now.bow(1 << broom);
        return Integer.bitCount(now.bent);
    }

    public int hand(int street) {
        if (!isStreet(street)) {
            return UNKNOWN;
        }
        int had = now.dustIn(street);
        if (had == 0) {
            return STATE;
        }
        acts.push(now);
        now.empty(street);
        return had;
    }

    public int undo() {
        if (acts.size == 0) {
            return STATE;
        }
        acts.pop(now);
        return acts.size;
    }

    // ---- dawns to come

    public int dust(int street, int n) {
        if (!isStreet(street)) {
            return UNKNOWN;
        }
        if (!within(n, 0, MOST_DAWNS_TOLD)) {
            return OUTSIDE;
        }
        return behind(n, EVERYBODY).dustIn(street);
    }

    public int knees(int n) {
        if (!within(n, 0, MOST_DAWNS_TOLD)) {
            return OUTSIDE;
        }
        return behind(n, EVERYBODY).deepStreets();
    }

    public int knee(int what) {
        if (!within(what, 0, 1)) {
            return OUTSIDE;
        }
        Moment then = fromNow();
        for (int n = 0; n <= MOST_DAWNS_TOLD; n++) {
            int deep = then.firstDeep();
            if (deep != NONE) {
                return what == 0 ? n : deep;
            }
            then.passDawn(EVERYBODY, 1);
        }
        return NONE;
    }

    public int best(int broom, int n, int what) {
        if (!told.hasBroom(broom)) {
            return UNKNOWN;
        }
        if (!within(n, 1, MOST_DAWNS_TRIED) || !within(what, 0, 1)) {
            return OUTSIDE;
        }
        int which = 0;
        int least = STREETS * MOST_DUST + 1;
        for (int street = 0; street < STREETS; street++) {
            Moment then = fromNow();
            then.goTo(broom, street);
            for (int i = 0; i < n; i++) {
                then.passDawn(EVERYBODY, 1);
            }
            if (then.allDust() < least) {
                which = street;
                least = then.allDust();
            }
        }
        return what == 0 ? which : least;
    }

    public int bends(int n) {
        if (!within(n, 1, MOST_DAWNS_TRIED)) {
            return OUTSIDE;
        }
        int found = NONE;
        int fewest = MOST_BROOMS + 1;
        for (int set = 0; set < (1 << told.brooms); set++) {
            boolean free = (set & now.bent) == 0;
            if (free && Integer.bitCount(set) < fewest && staysShallow(set, n)) {
                found = set;
                fewest = Integer.bitCount(set);
            }
        }
        return found;
    }

    public int judge(int n, long row) {
        if (!within(n, 1, MOST_DOINGS) || row < 0 || row >= power(1000, n)) {
            return OUTSIDE;
        }
        Moment then = fromNow();
        for (int i = 0; i < n; i++) {
            int doing = (int) (row / Math.max(1L, power(1000, n - 1 - i)) % 1000);
            if (!isSo(then, doing / 100, doing / 10 % 10, doing % 10)) {
                return i;
            }
        }
        return NONE;
    }

    // ---- heaps

    public int heap(int d, int r, int g) {
        if (!within(d, 0, 20) || !within(r, 0, 20) || !within(g, 0, 9)) {
            return OUTSIDE;
        }
        if (heaps.size >= MOST_HEAPS) {
            return FULL;
        }
        heaps.add(d, r, g);
        return heaps.size;
    }

    public int unheap() {
        int were = heaps.size;
        heaps.size = 0;
        return were;
    }

    public int whose(int what) {
        if (!within(what, 0, 1)) {
            return OUTSIDE;
        }
        int many = 0;
        int first = NONE;
        for (int kind = PLAIN; kind <= STRIKER; kind++) {
            for (int strength = 1; strength <= 9; strength++) {
                if (heaps.fit(kind, strength)) {
                    many++;
                    first = first == NONE ? 10 * kind + strength : first;
                }
            }
        }
        return what == 0 ? many : first;
    }

    // ---- shares, rests, chances

    public int share(int broom, boolean upper) {
        if (!told.hasBroom(broom)) {
            return UNKNOWN;
        }
        int bit = 1 << broom;
        long above = 0L;
        for (int came = 0; came < (1 << told.brooms); came++) {
            if ((came & bit) == 0) {
                int less = behind(DAWNS_OF_A_SHARE, came).allDust();
                less -= behind(DAWNS_OF_A_SHARE, came | bit).allDust();
                above += less * ordersWith(Integer.bitCount(came));
            }
        }
        return fraction(above, factorial(told.brooms), upper);
    }

    public int rests(int one, int other, int what) {
        if (!told.hasBroom(one) || !told.hasBroom(other)) {
            return UNKNOWN;
        }
        if (one == other || !within(what, 0, 1)) {
            return OUTSIDE;
        }
        int others = EVERYBODY & ~((1 << one) | (1 << other));
        int many = 0;
        int first = NONE;
        for (int mine = 0; mine <= 1; mine++) {
            for (int theirs = 0; theirs <= 1; theirs++) {
                if (isAtRest(one, other, others | (mine << one) | (theirs << other))) {
                    many++;
                    first = first == NONE ? 10 * mine + theirs : first;
                }
            }
        }
        return what == 0 ? many : first;
    }

    public int twice(int street, int n, int x, boolean upper) {
        if (!isStreet(street)) {
            return UNKNOWN;
        }
        if (!within(n, 1, MOST_DAWNS_BY_CHANCE) || !within(x, 0, 10)) {
            return OUTSIDE;
        }
        long above = 0L;
        for (int doubled = 0; doubled < (1 << n); doubled++) {
            if (isDeepBehind(street, n, doubled)) {
                int times = Integer.bitCount(doubled);
                above += power(x, times) * power(10 - x, n - times);
            }
        }
        return fraction(above, power(10, n), upper);
    }

    public long seed(long v) {
        long was = chance;
        chance = v;
        return was;
    }

    public int years(int m) {
        if (!within(m, 1, MOST_YEARS)) {
            return OUTSIDE;
        }
        Moment then = fromNow();
        int together = 0;
        for (int i = 0; i < m; i++) {
            chance = chance * SEED_TIMES + SEED_AND;
            happen(then, (int) ((chance >>> 33) % 32));
            together += then.allDust();
        }
        return together;
    }

    // ---- slots

    public int keep(int slot) {
        if (!within(slot, 0, SLOTS - 1)) {
            return UNKNOWN;
        }
        now.save(slots, slot * CELLS);
        filled[slot] = true;
        return now.dawns;
    }

    public int again(int slot) {
        if (!within(slot, 0, SLOTS - 1)) {
            return UNKNOWN;
        }
        if (!filled[slot]) {
            return STATE;
        }
        now.load(slots, slot * CELLS);
        acts.clear();
        return now.dawns;
    }

    public int count(int what) {
        switch (what) {
            case 0:
                return script.length;
            case 1:
                return told.brooms;
            case 2:
                return told.falls;
            case 3:
                return now.dawns;
            case 4:
                return now.allDust();
            case 5:
                return now.deepStreets();
            case 6:
                return now.given ? 1 : 0;
            case 7:
                return now.bent;
            case 8:
                return acts.size;
            case 9:
                return heaps.size;
            default:
                return OUTSIDE;
        }
    }

    // ---- what the calls are made of

    private static boolean within(int number, int least, int most) {
        return number >= least && number <= most;
    }

    private static boolean isStreet(int street) {
        return street >= 0 && street < STREETS;
    }

    /** The one moment to try things on: it is made anew by each call of this. */
    private Moment fromNow() {
        trial.copy(now);
        return trial;
    }

    private Moment behind(int n, int workers) {
        Moment then = fromNow();
        for (int i = 0; i < n; i++) {
            then.passDawn(workers, 1);
        }
        return then;
    }

    private boolean staysShallow(int bowing, int n) {
        Moment then = fromNow();
        then.bow(bowing);
        for (int i = 0; i < n; i++) {
            then.passDawn(EVERYBODY, 1);
            if (then.firstDeep() != NONE) {
                return false;
            }
        }
        return true;
    }

    /** Does a told doing, if it can be, and answers if it could (or if it is so). */
    private boolean isSo(Moment then, int verb, int middle, int last) {
        if (verb == 1) {
            return tryStep(then, middle, last);
        }
        if (verb == 5) {
            return isStreet(middle) && then.dustIn(middle) >= last;
        }
        if (middle != 0) {
            return false;
        }
        switch (verb) {
            case 0:
                return last == 0 && tryDawn(then);
            case 2:
                return last == 0 && tryVote(then);
            case 3:
                return tryBow(then, last);
            case 4:
                return tryEmpty(then, last);
            case 6:
                return isStreet(last) && then.isDeep(last);
            default:
                return false;
        }
    }

    private boolean tryDawn(Moment then) {
        then.passDawn(EVERYBODY, 1);
        return true;
    }

    private boolean tryStep(Moment then, int broom, int side) {
        if (!told.hasBroom(broom) || !within(side, 0, 1)) {
            return false;
        }
        then.step(broom, side);
        return true;
    }

    private boolean tryVote(Moment then) {
        then.turnVote();
        return true;
    }

    private boolean tryBow(Moment then, int broom) {
        if (!told.hasBroom(broom) || then.isBent(broom)) {
            return false;
        }
        then.bow(1 << broom);
        return true;
    }

    private boolean tryEmpty(Moment then, int street) {
        if (!isStreet(street) || then.dustIn(street) == 0) {
            return false;
        }
        then.empty(street);
        return true;
    }

    /** What a lot of 0 to 31 brings; what can not be is let go. */
    private void happen(Moment then, int lot) {
        if (lot <= 9) {
            tryStep(then, lot / 2, lot % 2);
        } else if (lot == 10) {
            tryVote(then);
        } else if (lot <= 18) {
            tryEmpty(then, lot - 11);
        } else {
            tryDawn(then);
        }
    }

    /** In how many orders just so many, told which, come ahead of a told broom. */
    private long ordersWith(int ahead) {
        return factorial(ahead) * factorial(told.brooms - 1 - ahead);
    }

    private boolean isAtRest(int one, int other, int workers) {
        return gain(one, workers) >= gain(one, workers ^ (1 << one))
            && gain(other, workers) >= gain(other, workers ^ (1 << other));
    }

    private int gain(int broom, int workers) {
        Moment then = behind(DAWNS_OF_A_REST, workers);
        int cost = ((workers >> broom) & 1) == 1 ? 4 : 0;
        return 20 - then.dustIn(then.placeOf(broom)) - cost;
    }

    private boolean isDeepBehind(int street, int n, int doubled) {
        Moment then = fromNow();
        for (int i = 0; i < n; i++) {
            then.passDawn(EVERYBODY, 1 + ((doubled >> i) & 1));
        }
        return then.isDeep(street);
    }

    private static long factorial(int n) {
        long product = 1L;
        for (int i = 2; i <= n; i++) {
            product *= i;
        }
        return product;
    }

    private static long power(int base, int exponent) {
        long product = 1L;
        for (int i = 0; i < exponent; i++) {
            product *= base;
        }
        return product;
    }

    private static int fraction(long above, long below, boolean upper) {
        long common = Math.max(1L, commonDivisor(Math.abs(above), below));
        return (int) ((upper ? above : below) / common);
    }

    private static long commonDivisor(long a, long b) {
        long large = a;
        long small = b;
        for (int i = 0; i < 100 && small != 0; i++) {
            long left = large % small;
            large = small;
            small = left;
        }
        return large;
    }

    /** THE TEXT, letter by letter. */
    private static final class Script {
        static final int FIRST_PART = 1 + STREETS;
        static final int BROOM_LETTERS = 4;
        static final int FALL_LETTERS = 3;

        private final int[] letters = new int[MOST_LETTERS];
        private int length = 0;

        void add(int letter) {
            if (length < MOST_LETTERS) {
                letters[length] = letter;
                length++;
            }
        }

        int letterAt(int at) {
            return at >= 0 && at < length && at < MOST_LETTERS ? letters[at] : NONE;
        }

        int figureAt(int at) {
            return letterAt(at) - '0';
        }

        /** A letter that lacks at the end is found missing at the place that is the length. */
        int firstFault() {
            if (letterAt(0) != 'B') {
                return 0;
            }
            for (int at = 1; at < FIRST_PART; at++) {
                if (!within(figureAt(at), 0, 9)) {
                    return at;
                }
            }
            return firstFaultOfParts();
        }

        private int firstFaultOfParts() {
            int brooms = 0;
            int falls = 0;
            for (int at = FIRST_PART; at < length; at += letterAt(at) == 'N' ? BROOM_LETTERS : FALL_LETTERS) {
                boolean isBroom = letterAt(at) == 'N' && brooms < MOST_BROOMS;
                boolean isFall = letterAt(at) == 'F' && falls < MOST_FALLS;
                if (!isBroom && !isFall) {
                    return at;
                }
                int wrong = isBroom ? faultOfBroom(at) : faultOfFall(at);
                if (wrong != NONE) {
                    return wrong;
                }
                brooms += isBroom ? 1 : 0;
                falls += isFall ? 1 : 0;
            }
            return NONE;
        }

        private int faultOfBroom(int at) {
            if (!isStreet(figureAt(at + 1))) {
                return at + 1;
            }
            if (!within(figureAt(at + 2), 1, 9)) {
                return at + 2;
            }
            return within(figureAt(at + 3), PLAIN, LEANER) ? NONE : at + 3;
        }

        private int faultOfFall(int at) {
            if (!isStreet(figureAt(at + 1))) {
                return at + 1;
            }
            return within(figureAt(at + 2), 0, 9) ? NONE : at + 2;
        }
    }

    /** THE CITY as it was told: what no act changes, and how it was at first. */
    private static final class Told {
        private final int[] firstDust = new int[STREETS];
        private final int[] firstPlace = new int[MOST_BROOMS];
        private final int[] strength = new int[MOST_BROOMS];
        private final int[] kind = new int[MOST_BROOMS];
        private final int[] fallStreet = new int[MOST_FALLS];
        private final int[] fallDust = new int[MOST_FALLS];
        private int brooms = 0;
        private int falls = 0;

        boolean hasBroom(int broom) {
            return broom >= 0 && broom < brooms && broom < MOST_BROOMS;
        }

        int strengthOf(int broom) {
            return broom >= 0 && broom < MOST_BROOMS ? strength[broom] : 0;
        }

        int kindOf(int broom) {
            return broom >= 0 && broom < MOST_BROOMS ? kind[broom] : PLAIN;
        }

        /** Reads a text that has no fault. */
        void read(Script script) {
            for (int street = 0; street < STREETS; street++) {
                firstDust[street] = script.figureAt(1 + street);
            }
            brooms = 0;
            falls = 0;
            int at = Script.FIRST_PART;
            while (at < script.length) {
                if (script.letterAt(at) == 'N') {
                    addBroom(script, at);
                    at += Script.BROOM_LETTERS;
                } else {
                    addFall(script, at);
                    at += Script.FALL_LETTERS;
                }
            }
        }

        private void addBroom(Script script, int at) {
            if (brooms < MOST_BROOMS) {
                firstPlace[brooms] = script.figureAt(at + 1);
                strength[brooms] = script.figureAt(at + 2);
                kind[brooms] = script.figureAt(at + 3);
                brooms++;
            }
        }

        private void addFall(Script script, int at) {
            if (falls < MOST_FALLS) {
                fallStreet[falls] = script.figureAt(at + 1);
                fallDust[falls] = script.figureAt(at + 2);
                falls++;
            }
        }
    }

    /** THE CITY at one time: what acts and dawns change. */
    private static final class Moment {
        private final Told told;
        private final int[] dust = new int[STREETS];
        private final int[] place = new int[MOST_BROOMS];
        private final boolean[] deep = new boolean[STREETS];
        private boolean given = false;
        private int bent = 0;
        private int dawns = 0;

        Moment(Told told) {
            this.told = told;
        }

        void begin() {
            System.arraycopy(told.firstDust, 0, dust, 0, STREETS);
            System.arraycopy(told.firstPlace, 0, place, 0, MOST_BROOMS);
            given = false;
            bent = 0;
            dawns = 0;
        }

        void copy(Moment from) {
            System.arraycopy(from.dust, 0, dust, 0, STREETS);
            System.arraycopy(from.place, 0, place, 0, MOST_BROOMS);
            given = from.given;
            bent = from.bent;
            dawns = from.dawns;
        }

        void save(int[] cells, int from) {
            if (from < 0 || from > cells.length - CELLS) {
                return;
            }
            System.arraycopy(dust, 0, cells, from, STREETS);
            System.arraycopy(place, 0, cells, from + STREETS, MOST_BROOMS);
            int rest = from + STREETS + MOST_BROOMS;
            cells[rest] = given ? 1 : 0;
            cells[rest + 1] = bent;
            cells[rest + 2] = dawns;
        }

        void load(int[] cells, int from) {
            if (from < 0 || from > cells.length - CELLS) {
                return;
            }
            System.arraycopy(cells, from, dust, 0, STREETS);
            System.arraycopy(cells, from + STREETS, place, 0, MOST_BROOMS);
            int rest = from + STREETS + MOST_BROOMS;
            given = cells[rest] == 1;
            bent = cells[rest + 1];
            dawns = cells[rest + 2];
        }

        int dustIn(int street) {
            return isStreet(street) ? dust[street] : 0;
        }

        int placeOf(int broom) {
            return told.hasBroom(broom) ? place[broom] : 0;
        }

        int allDust() {
            int sum = 0;
            for (int street = 0; street < STREETS; street++) {
                sum += dust[street];
            }
            return sum;
        }

        boolean isDeep(int street) {
            return dustIn(street) >= KNEE_DEEP;
        }

        int deepStreets() {
            int bits = 0;
            for (int street = 0; street < STREETS; street++) {
                bits |= isDeep(street) ? 1 << street : 0;
            }
            return bits;
        }

        int firstDeep() {
            for (int street = 0; street < STREETS; street++) {
                if (isDeep(street)) {
                    return street;
                }
            }
            return NONE;
        }

        int broomsIn(int street) {
            int bits = 0;
            for (int broom = 0; broom < told.brooms; broom++) {
                bits |= placeOf(broom) == street ? 1 << broom : 0;
            }
            return bits;
        }

        boolean isBent(int broom) {
            return ((bent >> broom) & 1) == 1;
        }

        int worksAs(int broom) {
            int kind = told.kindOf(broom);
            if (kind == BESOM || kind == PLAIN) {
                return kind;
            }
            if (given || isBent(broom)) {
                return PLAIN;
            }
            return kind == STRIKER ? STRIKER : AS_NOTHING;
        }

        void goTo(int broom, int street) {
            if (told.hasBroom(broom)) {
                place[broom] = street;
            }
        }

        void step(int broom, int side) {
            int street = placeOf(broom);
            goTo(broom, side == 0 ? leftOf(street) : rightOf(street));
        }

        void turnVote() {
            given = !given;
        }

        void bow(int brooms) {
            bent |= brooms;
        }

        void empty(int street) {
            if (isStreet(street)) {
                dust[street] = 0;
            }
        }

        /** Brooms that are not among the workers (bits) do nothing; the fall comes so many times. */
        void passDawn(int workers, int times) {
            comeDown(times);
            for (int broom = 0; broom < told.brooms; broom++) {
                if (((workers >> broom) & 1) == 1) {
                    work(broom);
                }
            }
            spread();
            dawns++;
        }

        private void comeDown(int times) {
            int falls = told.falls;
            if (falls > 0 && falls <= MOST_FALLS && dawns >= 0) {
                int fall = dawns % falls;
                pour(told.fallStreet[fall], told.fallDust[fall] * times);
            }
        }

        private void work(int broom) {
            int street = placeOf(broom);
            int strength = told.strengthOf(broom);
            switch (worksAs(broom)) {
                case PLAIN:
                    sweep(street, strength);
                    break;
                case STRIKER:
                    pour(rightOf(street), sweep(street, strength));
                    break;
                case BESOM:
                    sweep(street, strength);
                    sweep(leftOf(street), strength / 2);
                    sweep(rightOf(street), strength / 2);
                    break;
                default:
                    break;
            }
        }

        private void pour(int street, int more) {
            if (isStreet(street)) {
                dust[street] = Math.min(MOST_DUST, dust[street] + more);
            }
        }

        private int sweep(int street, int strength) {
            if (!isStreet(street)) {
                return 0;
            }
            int gone = Math.min(strength, dust[street]);
            dust[street] -= gone;
            return gone;
        }

        /** All at once: who is knee-deep is marked before any dust goes over. */
        private void spread() {
            for (int street = 0; street < STREETS; street++) {
                deep[street] = dust[street] >= KNEE_DEEP;
            }
            for (int street = 0; street < STREETS; street++) {
                if (deep[street]) {
                    dust[street] -= 2;
                    dust[leftOf(street)]++;
                    dust[rightOf(street)]++;
                }
            }
        }

        private static int leftOf(int street) {
            return (street + STREETS - 1) & (STREETS - 1);
        }

        private static int rightOf(int street) {
            return (street + 1) & (STREETS - 1);
        }
    }

    /** The last acts, each by the moment ahead of it, in a ring: the oldest is written over. */
    private static final class ActRow {
        private final int[] cells = new int[MOST_ACTS * CELLS];
        private int first = 0;
        private int size = 0;

        void clear() {
            first = 0;
            size = 0;
        }

        private static int spotOf(int number) {
            return (number % MOST_ACTS) * CELLS;
        }

        void push(Moment moment) {
            moment.save(cells, spotOf(first + size));
            if (size < MOST_ACTS) {
                size++;
            } else {
                first = (first + 1) % MOST_ACTS;
            }
        }

        void pop(Moment moment) {
            if (size > 0) {
                size--;
                moment.load(cells, spotOf(first + size));
            }
        }
    }

    /** What was seen of the unknown broom's work. */
    private static final class Heaps {
        private final int[] before = new int[MOST_HEAPS];
        private final int[] left = new int[MOST_HEAPS];
        private final int[] gone = new int[MOST_HEAPS];
        private int size = 0;

        void add(int d, int r, int g) {
            if (size < MOST_HEAPS) {
                before[size] = d;
                left[size] = r;
                gone[size] = g;
                size++;
            }
        }

        boolean fit(int kind, int strength) {
            for (int i = 0; i < size && i < MOST_HEAPS; i++) {
                int moved = Math.min(strength, before[i]);
                int toTheRight = kind == STRIKER ? moved : 0;
                if (left[i] != before[i] - moved || gone[i] != toTheRight) {
                    return false;
                }
            }
            return true;
        }
    }
}
