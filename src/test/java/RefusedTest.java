import java.util.function.Supplier;
import java.util.function.ToLongFunction;

/**
 * Every call's refusals: the first number beyond each bound on each side, which of several is told, and
 * that nothing is changed by what is refused, hidden things (the row, what was kept, the text) as well.
 * Each is asked in several states; beside the object that is asked stands a like one that is not.
 */
public final class RefusedTest {
    private static final int UNKNOWN = DustVote.UNKNOWN, OUTSIDE = DustVote.OUTSIDE, STATE = DustVote.STATE, FULL = DustVote.FULL;
    private static final int LEAST = Integer.MIN_VALUE, MOST = Integer.MAX_VALUE;
    private static final Due DUE = new Due("RefusedTest");

    private static final int[] NO_STREETS = {-1, 8, -8, 15, 16, 32, 256, LEAST, MOST};
    private static final int[] NO_SLOTS = {-1, 2, -2, 3, LEAST, MOST};
    private static final int[] NO_LETTERS = {-1, 256, -66, 66 + 256, LEAST, MOST};

    private static Supplier<DustVote> state;
    private static String stateName;

    public static void main(String[] args) {
        in("new", DustVote::new);
        in("one", RefusedTest::one);
        in("busy", RefusedTest::busy);
        in("full", RefusedTest::full);
        ofTheState();
        DUE.end();
    }

    /** One broom, nothing done, a text with a fault, one slot kept. */
    private static DustVote one() {
        DustVote x = Due.city("B10000009N740F71");
        x.keep(1);
        Due.rewrite(x, "B1N");
        return x;
    }

    /** Three brooms, some acts, one heap, a seed, one slot kept. */
    private static DustVote busy() {
        DustVote x = Due.city("B98765432N023N141N252F09F15");
        x.dawn();
        x.keep(0);
        x.vote();
        x.bend(1);
        x.walk(2, 1);
        x.hand(6);
        x.heap(9, 4, 0);
        x.seed(-5L);
        return x;
    }

    /** The most of all: five brooms, five falls, fourteen acts and more, both slots, six heaps, 48 letters. */
    private static DustVote full() {
        DustVote x = Due.city("B99999999N093N191N272N363N750F09F19F29F39F49");
        for (int i = 0; i < 9; i++) {
            x.dawn();
        }
        x.keep(0);
        x.walk(0, 0);
        x.bend(0);
        x.bend(4);
        x.hand(3);
        x.keep(1);
        x.vote();
        x.dawn();
        x.walk(4, 1);
        for (int i = 0; i < 6; i++) {
            x.heap(i, 0, 0);
        }
        for (int i = 0; i < 4; i++) {
            x.write(48);
        }
        x.seed(Long.MIN_VALUE);
        return x;
    }

    private static void in(String name, Supplier<DustVote> made) {
        state = made;
        stateName = name;
        DUE.is("two of '" + name + "' are alike", Due.spent(made.get()), Due.spent(made.get()));
        int brooms = made.get().count(1);
        ofTheCity(brooms);
        ofActs(brooms);
        ofDawnsToCome(brooms);
        ofHeaps();
        ofShares(brooms);
        ofRests(brooms);
        ofChances();
        ofSlots();
    }

    private static void refused(int want, String call, ToLongFunction<DustVote> asked) {
        DustVote x = state.get();
        DUE.is(call + " in '" + stateName + "'", asked.applyAsLong(x), want);
        DUE.is(call + " in '" + stateName + "', refused, changes nothing", Due.spent(x), Due.spent(state.get()));
    }

    private static int[] beyond(int least, int most) {
        return new int[] {least - 1, most + 1, LEAST, MOST};
    }

    /** 32 and more too: bits of a shift come round there. */
    private static int[] noBrooms(int brooms) {
        return new int[] {-1, brooms, 5, 31, 32, 32 + brooms, LEAST, MOST};
    }

    private static void ofTheCity(int brooms) {
        for (int letter : NO_LETTERS) {
            refused(OUTSIDE, "2: write(" + letter + ")", x -> x.write(letter));
        }
        for (int street : NO_STREETS) {
            for (int what : new int[] {0, 1, 2, -1, 3}) {
                refused(UNKNOWN, "6: street(" + street + ", " + what + ")", x -> x.street(street, what));
            }
        }
        for (int what : beyond(0, 2)) {
            refused(OUTSIDE, "6: street(0, " + what + ")", x -> x.street(0, what));
            refused(OUTSIDE, "6: street(7, " + what + ")", x -> x.street(7, what));
        }
        for (int broom : noBrooms(brooms)) {
            for (int what : new int[] {0, 1, 2, 3, 4, -1, 5}) {
                refused(UNKNOWN, "7: broom(" + broom + ", " + what + ")", x -> x.broom(broom, what));
            }
        }
        for (int what : beyond(0, 4)) {
            for (int broom = 0; broom < brooms; broom++) {
                int known = broom;
                refused(OUTSIDE, "7: broom(" + known + ", " + what + ")", x -> x.broom(known, what));
            }
        }
    }

    private static void ofActs(int brooms) {
        for (int broom : noBrooms(brooms)) {
            for (int side : new int[] {0, 1, -1, 2}) {
                refused(UNKNOWN, "9: walk(" + broom + ", " + side + ")", x -> x.walk(broom, side));
            }
            refused(UNKNOWN, "11: bend(" + broom + ")", x -> x.bend(broom));
        }
        for (int side : beyond(0, 1)) {
            for (int broom = 0; broom < brooms; broom++) {
                int known = broom;
                refused(OUTSIDE, "9: walk(" + known + ", " + side + ")", x -> x.walk(known, side));
            }
        }
        for (int street : NO_STREETS) {
            refused(UNKNOWN, "12: hand(" + street + ")", x -> x.hand(street));
        }
    }

    private static void ofDawnsToCome(int brooms) {
        for (int street : NO_STREETS) {
            for (int n : new int[] {0, 30, -1, 31}) {
                refused(UNKNOWN, "14: dust(" + street + ", " + n + ")", x -> x.dust(street, n));
            }
        }
        for (int n : beyond(0, 30)) {
            refused(OUTSIDE, "14: dust(0, " + n + ")", x -> x.dust(0, n));
            refused(OUTSIDE, "14: dust(7, " + n + ")", x -> x.dust(7, n));
            refused(OUTSIDE, "15: knees(" + n + ")", x -> x.knees(n));
        }
        for (int what : beyond(0, 1)) {
            refused(OUTSIDE, "16: knee(" + what + ")", x -> x.knee(what));
        }
        ofBest(brooms);
        for (int n : beyond(1, 9)) {
            refused(OUTSIDE, "18: bends(" + n + ")", x -> x.bends(n));
        }
        ofJudge();
    }

    private static void ofBest(int brooms) {
        for (int broom : noBrooms(brooms)) {
            refused(UNKNOWN, "17: best(" + broom + ", 1, 0)", x -> x.best(broom, 1, 0));
            refused(UNKNOWN, "17: best(" + broom + ", 0, 0)", x -> x.best(broom, 0, 0));
            refused(UNKNOWN, "17: best(" + broom + ", 9, 2)", x -> x.best(broom, 9, 2));
        }
        for (int broom = 0; broom < brooms; broom++) {
            int known = broom;
            for (int n : beyond(1, 9)) {
                refused(OUTSIDE, "17: best(" + known + ", " + n + ", 0)", x -> x.best(known, n, 0));
                refused(OUTSIDE, "17: best(" + known + ", " + n + ", 1)", x -> x.best(known, n, 1));
            }
            for (int what : beyond(0, 1)) {
                refused(OUTSIDE, "17: best(" + known + ", 1, " + what + ")", x -> x.best(known, 1, what));
                refused(OUTSIDE, "17: best(" + known + ", 9, " + what + ")", x -> x.best(known, 9, what));
            }
        }
    }

    private static void ofJudge() {
        for (int n : beyond(1, 4)) {
            refused(OUTSIDE, "19: judge(" + n + ", 0)", x -> x.judge(n, 0L));
            refused(OUTSIDE, "19: judge(" + n + ", -1)", x -> x.judge(n, -1L));
        }
        long more = 1000L;
        for (int n = 1; n <= 4; n++) {
            int doings = n;
            for (long row : new long[] {-1L, more, more + 1, -more, Long.MIN_VALUE, Long.MAX_VALUE, 1L << 62}) {
                refused(OUTSIDE, "19: judge(" + doings + ", " + row + ")", x -> x.judge(doings, row));
            }
            more *= 1000L;
        }
    }

    private static void ofHeaps() {
        for (int d : beyond(0, 20)) {
            refused(OUTSIDE, "20: heap(" + d + ", 0, 0)", x -> x.heap(d, 0, 0));
            refused(OUTSIDE, "20: heap(0, " + d + ", 0)", x -> x.heap(0, d, 0));
            refused(OUTSIDE, "20: heap(20, " + d + ", 9)", x -> x.heap(20, d, 9));
        }
        for (int g : beyond(0, 9)) {
            refused(OUTSIDE, "20: heap(0, 0, " + g + ")", x -> x.heap(0, 0, g));
            refused(OUTSIDE, "20: heap(20, 20, " + g + ")", x -> x.heap(20, 20, g));
        }
        for (int what : beyond(0, 1)) {
            refused(OUTSIDE, "22: whose(" + what + ")", x -> x.whose(what));
        }
    }

    private static void ofShares(int brooms) {
        for (int broom : noBrooms(brooms)) {
            refused(UNKNOWN, "23: share(" + broom + ", true)", x -> x.share(broom, true));
            refused(UNKNOWN, "23: share(" + broom + ", false)", x -> x.share(broom, false));
        }
    }

    private static void ofRests(int brooms) {
        for (int no : noBrooms(brooms)) {
            for (int what : new int[] {0, 1, -1, 2}) {
                refused(UNKNOWN, "24: rests(" + no + ", 0, " + what + ")", x -> x.rests(no, 0, what));
                refused(UNKNOWN, "24: rests(0, " + no + ", " + what + ")", x -> x.rests(0, no, what));
                refused(UNKNOWN, "24: rests(" + no + ", " + no + ", " + what + ")", x -> x.rests(no, no, what));
            }
        }
        for (int one = 0; one < brooms; one++) {
            for (int other = 0; other < brooms; other++) {
                int left = one;
                int right = other;
                for (int what : left == right ? new int[] {0, 1, -1, 2} : beyond(0, 1)) {
                    refused(OUTSIDE, "24: rests(" + left + ", " + right + ", " + what + ")", x -> x.rests(left, right, what));
                }
            }
        }
    }

    private static void ofChances() {
        for (boolean upper : new boolean[] {true, false}) {
            for (int street : NO_STREETS) {
                refused(UNKNOWN, "25: twice(" + street + ", 1, 0)", x -> x.twice(street, 1, 0, upper));
                refused(UNKNOWN, "25: twice(" + street + ", 0, 0)", x -> x.twice(street, 0, 0, upper));
                refused(UNKNOWN, "25: twice(" + street + ", 6, 11)", x -> x.twice(street, 6, 11, upper));
            }
            for (int n : beyond(1, 6)) {
                refused(OUTSIDE, "25: twice(0, " + n + ", 0)", x -> x.twice(0, n, 0, upper));
                refused(OUTSIDE, "25: twice(7, " + n + ", 10)", x -> x.twice(7, n, 10, upper));
            }
            for (int tenths : beyond(0, 10)) {
                refused(OUTSIDE, "25: twice(0, 1, " + tenths + ")", x -> x.twice(0, 1, tenths, upper));
                refused(OUTSIDE, "25: twice(7, 6, " + tenths + ")", x -> x.twice(7, 6, tenths, upper));
            }
        }
        for (int m : beyond(1, 30)) {
            refused(OUTSIDE, "27: years(" + m + ")", x -> x.years(m));
        }
    }

    private static void ofSlots() {
        for (int slot : NO_SLOTS) {
            refused(UNKNOWN, "28: keep(" + slot + ")", x -> x.keep(slot));
            refused(UNKNOWN, "29: again(" + slot + ")", x -> x.again(slot));
        }
        for (int what : beyond(0, 9)) {
            refused(OUTSIDE, "30: count(" + what + ")", x -> x.count(what));
        }
    }

    /** What only some states refuse. */
    private static void ofTheState() {
        state = DustVote::new;
        stateName = "new";
        refused(STATE, "5: city(), no text", x -> x.city());
        refused(STATE, "13: undo(), none", x -> x.undo());
        refused(STATE, "29: again(0), none kept", x -> x.again(0));
        refused(STATE, "29: again(1), none kept", x -> x.again(1));
        for (int street = 0; street < 8; street++) {
            int empty = street;
            refused(STATE, "12: hand(" + empty + "), no dust", x -> x.hand(empty));
        }
        state = RefusedTest::one;
        stateName = "one";
        refused(STATE, "5: city(), a fault", x -> x.city());
        refused(STATE, "12: hand(6), no dust", x -> x.hand(6));
        refused(STATE, "13: undo(), none", x -> x.undo());
        refused(STATE, "29: again(0), none kept", x -> x.again(0));
        state = RefusedTest::busy;
        stateName = "busy";
        refused(STATE, "11: bend(1), it did", x -> x.bend(1));
        refused(STATE, "12: hand(6), done already", x -> x.hand(6));
        refused(STATE, "29: again(1), none kept", x -> x.again(1));
        state = RefusedTest::full;
        stateName = "full";
        for (int letter : new int[] {0, 48, 66, 255}) {
            refused(FULL, "2: write(" + letter + "), 48 there are", x -> x.write(letter));
        }
        refused(STATE, "5: city(), a fault", x -> x.city());
        refused(STATE, "11: bend(0), it did", x -> x.bend(0));
        refused(STATE, "11: bend(4), it did", x -> x.bend(4));
        refused(FULL, "20: heap(0, 0, 0), 6 there are", x -> x.heap(0, 0, 0));
        refused(FULL, "20: heap(20, 20, 9), 6 there are", x -> x.heap(20, 20, 9));
    }
}
