/** The edges of promises 28 to 30, slots and counts, and of a long use: one method for each sentence. */
public final class SlotEdgeTest {
    private static final int UNKNOWN = DustVote.UNKNOWN, OUTSIDE = DustVote.OUTSIDE, STATE = DustVote.STATE;
    private static final String MOST = "B99999999N010N121N232N343N750F01F12F23F34F79";
    private static final Due DUE = new Due("SlotEdgeTest");

    public static void main(String[] args) {
        slotsAre0To1();
        noneWereKept();
        eachSlotKeepsForItself();
        whatIsKeptIsAllThatActsChange();
        keptMoreThanOnce();
        theRowIsEmptyWhenOneGoesOn();
        toKeepIsNoAct();
        undoneActsDoNotReachASlot();
        aNewCityHasNoneKept();
        countsAtFirst();
        countsOfTheMost();
        countsAre0To9();
        usedFor512Calls();
        DUE.end();
    }

    private static void slotsAre0To1() {
        DustVote x = new DustVote();
        int[] slots = {-1, 0, 1, 2};
        int[] want = {UNKNOWN, 0, 0, UNKNOWN};
        for (int i = 0; i < slots.length; i++) {
            DUE.is("28: keep(" + slots[i] + ")", x.keep(slots[i]), want[i]);
        }
        for (int i = 0; i < slots.length; i++) {
            DUE.is("29: again(" + slots[i] + ")", x.again(slots[i]), want[i]);
        }
    }

    private static void noneWereKept() {
        DustVote x = Due.city("B10000000");
        DUE.is("29: again(0), none", x.again(0), STATE);
        DUE.is("29: again(1), none", x.again(1), STATE);
        x.keep(0);
        DUE.is("29: again(1), the other one only", x.again(1), STATE);
        DUE.is("29: again(0)", x.again(0), 0);
        DustVote y = Due.city("B10000000");
        y.keep(1);
        DUE.is("29: again(0), the other one only", y.again(0), STATE);
        DUE.is("29: again(1)", y.again(1), 0);
        y.dawn();
        DUE.is("29: again(2), no such slot", y.again(2), UNKNOWN);
        DUE.is("29: again(-1), no such slot", y.again(-1), UNKNOWN);
        DUE.is("29: refused, the dawn stays", y.count(3), 1);
    }

    private static void eachSlotKeepsForItself() {
        DustVote x = Due.city("B12345678N013F01");
        x.dawn();
        DUE.is("28: keep(0), the dawn", x.keep(0), 1);
        x.dawn();
        x.hand(7);
        x.walk(0, 0);
        DUE.is("28: keep(1), the dawn", x.keep(1), 2);
        x.dawn();
        x.vote();
        DUE.is("29: again(0)", x.again(0), 1);
        DUE.is("29: dust of slot 0", Due.dusts(x), "2 2 3 4 5 6 7 8");
        DUE.is("29: the broom of slot 0", x.broom(0, 0), 0);
        DUE.is("29: again(1)", x.again(1), 2);
        DUE.is("29: dust of slot 1", Due.dusts(x), "3 2 3 4 5 6 7 0");
        DUE.is("29: the broom of slot 1", x.broom(0, 0), 7);
        DUE.is("29: again(0), once more", x.again(0), 1);
        DUE.is("29: dust of slot 0, once more", Due.dusts(x), "2 2 3 4 5 6 7 8");
    }

    private static String moment(DustVote x) {
        StringBuilder all = new StringBuilder(Due.dusts(x));
        for (int broom = 0; broom < x.count(1); broom++) {
            all.append(' ').append(x.broom(broom, 0)).append(x.broom(broom, 3)).append(x.broom(broom, 4));
        }
        return all + " " + x.count(3) + " " + x.count(6) + " " + x.count(7);
    }

    private static void whatIsKeptIsAllThatActsChange() {
        for (int slot = 0; slot <= 1; slot++) {
            DustVote x = Due.city(MOST);
            x.dawn();
            x.bend(3);
            x.bend(4);
            x.walk(4, 1);
            x.vote();
            x.hand(2);
            String kept = moment(x);
            x.keep(slot);
            for (int broom = 0; broom < 3; broom++) {
                x.bend(broom);
            }
            for (int broom = 0; broom < 5; broom++) {
                x.walk(broom, broom % 2);
            }
            x.vote();
            x.dawn();
            for (int street = 0; street < 8; street++) {
                x.hand(street);
            }
            DUE.is("29: again(" + slot + ")", x.again(slot), 1);
            DUE.is("29: as it was kept", moment(x), kept);
            x.dawn();
            x.again(slot);
            DUE.is("29: as it was kept, once more", moment(x), kept);
        }
    }

    private static void keptMoreThanOnce() {
        DustVote x = Due.city("B00000000F01");
        x.keep(0);
        x.dawn();
        DUE.is("28: keep(0) over it", x.keep(0), 1);
        x.dawn();
        DUE.is("29: again(0), the last that was kept", x.again(0), 1);
        DUE.is("29: dust", x.count(4), 1);
    }

    private static void theRowIsEmptyWhenOneGoesOn() {
        DustVote x = Due.city("B00000000N010");
        for (int i = 0; i < 15; i++) {
            x.walk(0, 1);
        }
        x.keep(1);
        DUE.is("28: the row stays when it is kept", x.count(8), 14);
        x.again(1);
        DUE.is("29: the row is empty", x.count(8), 0);
        DUE.is("29: undo(), none", x.undo(), STATE);
        DUE.is("29: broom(0, 0)", x.broom(0, 0), 7);
        for (int i = 0; i < 15; i++) {
            x.walk(0, 1);
        }
        DUE.is("29: the row is of 14 again", x.count(8), 14);
        for (int left = 13; left >= 0; left--) {
            DUE.is("13: undo()", x.undo(), left);
        }
        DUE.is("13: broom(0, 0), all but the first undone", x.broom(0, 0), 0);
        DUE.is("13: undo(), none", x.undo(), STATE);
    }

    private static void toKeepIsNoAct() {
        DustVote x = Due.city("B10000000");
        x.keep(0);
        DUE.is("28: no act", x.count(8), 0);
        DUE.is("28: undo(), none", x.undo(), STATE);
        x.dawn();
        x.keep(0);
        DUE.is("28: undo() of the dawn ahead of it", x.undo(), 0);
        DUE.is("28: the dawn", x.count(3), 0);
    }

    private static void undoneActsDoNotReachASlot() {
        DustVote x = Due.city("B50000000");
        x.hand(0);
        x.keep(0);
        x.undo();
        DUE.is("28: undone", x.count(4), 5);
        x.again(0);
        DUE.is("29: as it was kept", x.count(4), 0);
    }

    private static void aNewCityHasNoneKept() {
        DustVote x = new DustVote();
        x.dawn();
        DUE.is("28: keep(0) without a city told", x.keep(0), 1);
        x.dawn();
        DUE.is("29: again(0) without a city told", x.again(0), 1);
        Due.rewrite(x, "B00000000");
        x.city();
        DUE.is("29: again(0), gone", x.again(0), STATE);
        DUE.is("29: again(1), never kept", x.again(1), STATE);
    }

    private static void countsAtFirst() {
        DustVote x = new DustVote();
        for (int what = 0; what <= 9; what++) {
            DUE.is("30: count(" + what + ") at first", x.count(what), 0);
        }
    }

    private static void countsOfTheMost() {
        DustVote x = Due.city(MOST);
        for (int letter = 0; letter < 4; letter++) {
            x.write(66);
        }
        for (int heap = 0; heap < 6; heap++) {
            x.heap(20, 20, 9);
        }
        for (int broom = 0; broom < 5; broom++) {
            x.bend(broom);
        }
        x.vote();
        for (int i = 0; i < 8; i++) {
            x.walk(0, 1);
        }
        int[] want = {48, 5, 5, 0, 72, 0, 1, 31, 14, 6};
        for (int what = 0; what <= 9; what++) {
            DUE.is("30: count(" + what + ") of the most", x.count(what), want[what]);
        }
        // 99 lie in no street for long: all eight are knee-deep, and each gives as much as it gets.
        DustVote deep = Due.city("B99999999F09F29F49F69F09");
        for (int dawn = 0; dawn < 30; dawn++) {
            deep.dawn();
        }
        DUE.is("30: count(5), all", deep.count(5), 255);
        DUE.is("30: count(3)", deep.count(3), 30);
        int sum = 0;
        for (int street = 0; street < 8; street++) {
            sum += deep.street(street, 0);
        }
        DUE.is("30: count(4)", deep.count(4), sum);
    }

    private static void countsAre0To9() {
        DustVote x = Due.city(MOST);
        DUE.is("30: count(-1)", x.count(-1), OUTSIDE);
        DUE.is("30: count(0)", x.count(0), 44);
        DUE.is("30: count(9)", x.count(9), 0);
        DUE.is("30: count(10)", x.count(10), OUTSIDE);
    }

    private static void usedFor512Calls() {
        DustVote x = new DustVote();
        for (int call = 1; call <= 511; call++) {
            x.dawn();
        }
        DUE.is("30: count(3), the 512th call", x.count(3), 511);
        DustVote y = new DustVote();
        for (int call = 1; call <= 511; call++) {
            y.vote();
        }
        DUE.is("30: count(8), the 512th call", y.count(8), 14);
        DustVote z = new DustVote();
        for (int call = 1; call <= 512; call++) {
            int due = call <= 48 ? call : DustVote.FULL;
            DUE.is("2: write(66), call " + call, z.write(66), due);
        }
    }
}
