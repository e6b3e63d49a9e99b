/** Promises 28 to 30: keep, again, count. */
public final class SlotsTest {
    private static final Due DUE = new Due("SlotsTest");

    public static void main(String[] args) {
        refusals();
        keptAndGoneOn();
        whatIsKept();
        counts();
        DUE.end();
    }

    private static void refusals() {
        DustVote x = Due.city("B00000000N010");
        x.walk(0, 1);
        DUE.is("28: keep(-1)", x.keep(-1), DustVote.UNKNOWN);
        DUE.is("28: keep(2)", x.keep(2), DustVote.UNKNOWN);
        DUE.is("29: again(-1)", x.again(-1), DustVote.UNKNOWN);
        DUE.is("29: again(2)", x.again(2), DustVote.UNKNOWN);
        DUE.is("29: again(0), none", x.again(0), DustVote.STATE);
        DUE.is("29: again(1), none", x.again(1), DustVote.STATE);
        DUE.is("29: count(8), refused", x.count(8), 1);
        DUE.is("28: keep(0)", x.keep(0), 0);
        DUE.is("28: count(8), kept", x.count(8), 1);
        DUE.is("29: again(1), none still", x.again(1), DustVote.STATE);
    }

    private static void keptAndGoneOn() {
        DustVote x = Due.city("B00000000F01");
        x.dawn();
        DUE.is("28: keep(0)", x.keep(0), 1);
        x.dawn();
        x.dawn();
        DUE.is("28: keep(1)", x.keep(1), 3);
        x.dawn();
        DUE.is("29: again(0)", x.again(0), 1);
        DUE.is("29: count(4)", x.count(4), 1);
        DUE.is("29: count(8)", x.count(8), 0);
        DUE.is("29: undo()", x.undo(), DustVote.STATE);
        DUE.is("29: dawn() behind it", x.dawn(), 2);
        DUE.is("29: undo() behind it", x.undo(), 0);
        DUE.is("29: again(1)", x.again(1), 3);
        DUE.is("29: count(4)", x.count(4), 3);
        DUE.is("29: again(0) once more", x.again(0), 1);
        x.dawn();
        DUE.is("28: keep(1) over it", x.keep(1), 2);
        x.hand(0);
        DUE.is("29: again(1), the new one", x.again(1), 2);
        DUE.is("29: count(4)", x.count(4), 2);
    }

    /** Text, heaps and the seed are not kept; all the rest is. */
    private static void whatIsKept() {
        DustVote x = Due.city("B98765432N023N141N252F09F15");
        x.dawn();
        x.vote();
        x.bend(0);
        x.walk(1, 0);
        x.again(1);
        x.keep(0);
        x.keep(1);
        x.again(1);
        String kept = Due.seen(x);
        x.dawn();
        x.walk(0, 1);
        x.walk(1, 1);
        x.vote();
        x.bend(1);
        x.hand(4);
        DUE.is("29: again(0)", x.again(0), 1);
        DUE.is("29: as it was kept", Due.seen(x).equals(kept) ? 1 : 0, 1);
        DUE.is("29: count(6)", x.count(6), 1);
        DUE.is("29: count(7)", x.count(7), 1);
        DUE.is("29: broom(1, 0)", x.broom(1, 0), 0);
        x.write(65);
        x.heap(1, 1, 1);
        x.seed(8L);
        x.again(1);
        DUE.is("29: the text stays", x.count(0), 28);
        DUE.is("29: the heaps stay", x.count(9), 1);
        DUE.is("29: the seed stays", x.seed(0L), 8);
        x.undo();
        DUE.is("29: an undo can not go behind it", x.count(7), 1);
    }

    private static void counts() {
        DustVote x = Due.city("B99000009N023N141N252F09F15");
        x.dawn();
        x.vote();
        x.bend(2);
        x.bend(0);
        x.heap(1, 0, 1);
        x.heap(1, 0, 1);
        x.write(1);
        int[] want = {28, 3, 2, 1, 30, 129, 1, 5, 4, 2};
        for (int what = 0; what <= 9; what++) {
            DUE.is("30: count(" + what + ")", x.count(what), want[what]);
        }
        DUE.is("30: count(10)", x.count(10), DustVote.OUTSIDE);
        DUE.is("30: count(-1)", x.count(-1), DustVote.OUTSIDE);
        x.vote();
        DUE.is("30: count(6), taken", x.count(6), 0);
        DUE.is("30: count(8)", x.count(8), 5);
    }
}
