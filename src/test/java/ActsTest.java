/** Promises 8 to 13: dawn, walk, vote, bend, hand, undo. */
public final class ActsTest {
    private static final Due DUE = new Due("ActsTest");

    public static void main(String[] args) {
        kindsOfWork();
        orderOfADawn();
        spreading();
        mostDust();
        walks();
        votes();
        bending();
        hands();
        undoing();
        rowOfFourteen();
        DUE.end();
    }

    /** One dawn of a city; then the dust, street by street. */
    private static void dawnOf(String text, int... dust) {
        DustVote x = Due.city(text);
        int sum = 0;
        for (int d : dust) {
            sum += d;
        }
        DUE.is("8: dawn() of " + text, x.dawn(), sum);
        for (int street = 0; street < 8; street++) {
            DUE.is("8: street(" + street + ", 0) of " + text, x.street(street, 0), dust[street]);
        }
        DUE.is("8: count(3)", x.count(3), 1);
    }

    private static void kindsOfWork() {
        dawnOf("B51000002N030", 2, 1, 0, 0, 0, 0, 0, 2);
        dawnOf("B51000002N090", 0, 1, 0, 0, 0, 0, 0, 2);
        dawnOf("B51000002N031", 2, 4, 0, 0, 0, 0, 0, 2);
        dawnOf("B51000002N091", 0, 6, 0, 0, 0, 0, 0, 2);
        dawnOf("B51000002N731", 5 + 2, 1, 0, 0, 0, 0, 0, 0);
        dawnOf("B95000001N052", 4, 3, 0, 0, 0, 0, 0, 0);
        dawnOf("B95000001N012", 8, 5, 0, 0, 0, 0, 0, 1);
        dawnOf("B50000035N772", 2, 0, 0, 0, 0, 0, 0, 0);
        dawnOf("B51000002N093", 5, 1, 0, 0, 0, 0, 0, 2);
    }

    private static void orderOfADawn() {
        dawnOf("B50000000N091N190", 0, 0, 0, 0, 0, 0, 0, 0);
        dawnOf("B50000000N190N091", 0, 5, 0, 0, 0, 0, 0, 0);
        dawnOf("B00000000N030F05", 2, 0, 0, 0, 0, 0, 0, 0);
        dawnOf("B90000000N090F09", 9, 0, 0, 0, 0, 0, 0, 0);
        dawnOf("B00000000N770F78F05", 0, 0, 0, 0, 0, 0, 0, 1);
        DustVote x = Due.city("B00000000F01F12F23");
        int[] sums = {1, 3, 6, 7, 9, 12};
        for (int sum : sums) {
            DUE.is("8: dawn(), falls by turns", x.dawn(), sum);
        }
        DUE.is("8: street(1, 0), falls by turns", x.street(1, 0), 4);
    }

    private static void spreading() {
        dawnOf("B90000000F01", 8, 1, 0, 0, 0, 0, 0, 1);
        dawnOf("B00000009F71", 1, 0, 0, 0, 0, 0, 1, 8);
        dawnOf("B99000000F01", 8, 10, 0, 0, 0, 0, 0, 1);
        DustVote x = Due.city("B99000000F01F19");
        DUE.is("8: dawn(), all at once", x.dawn(), 19);
        DUE.is("8: dawn(), all at once, 2", x.dawn(), 28);
        int[] want = {9, 17, 1, 0, 0, 0, 0, 1};
        for (int street = 0; street < 8; street++) {
            DUE.is("8: street(" + street + ", 0) all at once", x.street(street, 0), want[street]);
        }
    }

    /** 99 is most as soon as the fall is down, ahead of the broom and of the knee-deep streets. */
    private static void mostDust() {
        DustVote x = Due.city("B99999999N013F09F09F09F09F09");
        x.bend(0);
        for (int i = 0; i < 60; i++) {
            x.dawn();
        }
        DUE.is("8: street(0, 0) of the most", x.street(0, 0), 98);
        DustVote right = Due.city("B99999999N791F79F09");
        for (int i = 0; i < 300; i++) {
            right.dawn();
        }
        for (int street = 0; street < 8; street++) {
            DUE.is("8: street(" + street + ", 0) at most 99", right.street(street, 0) <= 99 ? 1 : 0, 1);
        }
    }

    private static void walks() {
        DustVote x = Due.city("B00000000N030N710");
        DUE.is("9: walk(0, 0)", x.walk(0, 0), 7);
        DUE.is("9: walk(0, 0)", x.walk(0, 0), 6);
        DUE.is("9: walk(0, 1)", x.walk(0, 1), 7);
        DUE.is("9: walk(0, 1)", x.walk(0, 1), 0);
        DUE.is("9: walk(1, 1)", x.walk(1, 1), 0);
        DUE.is("9: broom(1, 0)", x.broom(1, 0), 0);
        DUE.is("9: count(8)", x.count(8), 5);
        DUE.is("9: walk(2, 0)", x.walk(2, 0), DustVote.UNKNOWN);
        DUE.is("9: walk(-1, 5)", x.walk(-1, 5), DustVote.UNKNOWN);
        DUE.is("9: walk(0, 2)", x.walk(0, 2), DustVote.OUTSIDE);
        DUE.is("9: walk(0, -1)", x.walk(0, -1), DustVote.OUTSIDE);
        DUE.is("9: count(8), refused", x.count(8), 5);
        DUE.is("9: count(3)", x.count(3), 0);
    }

    private static void votes() {
        DustVote x = Due.city("B90000000N023N021");
        DUE.is("10: vote()", x.vote(), 1);
        DUE.is("10: count(6)", x.count(6), 1);
        DUE.is("10: dawn(), given", x.dawn(), 5);
        DUE.is("10: vote()", x.vote(), 0);
        DUE.is("10: count(6)", x.count(6), 0);
        DUE.is("10: dawn(), taken", x.dawn(), 5);
        DUE.is("10: street(1, 0), taken", x.street(1, 0), 2);
    }

    private static void bending() {
        DustVote x = Due.city("B90000000N023N021N430");
        DUE.is("11: bend(1)", x.bend(1), 1);
        DUE.is("11: dawn()", x.dawn(), 7);
        DUE.is("11: bend(1) again", x.bend(1), DustVote.STATE);
        DUE.is("11: bend(0)", x.bend(0), 2);
        DUE.is("11: bend(2)", x.bend(2), 3);
        DUE.is("11: bend(3)", x.bend(3), DustVote.UNKNOWN);
        DUE.is("11: bend(-1)", x.bend(-1), DustVote.UNKNOWN);
        DUE.is("11: count(7)", x.count(7), 7);
        DUE.is("11: count(8)", x.count(8), 4);
        DUE.is("11: dawn(), both", x.dawn(), 3);
        x.vote();
        x.vote();
        DUE.is("11: for good", x.broom(0, 3), 1);
    }

    private static void hands() {
        DustVote x = Due.city("B90000003");
        DUE.is("12: hand(0)", x.hand(0), 9);
        DUE.is("12: hand(0) again", x.hand(0), DustVote.STATE);
        DUE.is("12: hand(7)", x.hand(7), 3);
        DUE.is("12: hand(8)", x.hand(8), DustVote.UNKNOWN);
        DUE.is("12: hand(-1)", x.hand(-1), DustVote.UNKNOWN);
        DUE.is("12: count(4)", x.count(4), 0);
        DUE.is("12: count(8)", x.count(8), 2);
    }

    private static void undoing() {
        DustVote x = Due.city("B98765432N023N141N252F09F15");
        String[] seen = new String[8];
        for (int act = 0; act < 7; act++) {
            seen[act] = Due.seen(x);
            switch (act) {
                case 0: x.dawn(); break;
                case 1: x.walk(1, 1); break;
                case 2: x.vote(); break;
                case 3: x.bend(0); break;
                case 4: x.hand(2); break;
                case 5: x.vote(); break;
                default: x.dawn(); break;
            }
        }
        for (int act = 6; act >= 0; act--) {
            DUE.is("13: undo()", x.undo(), act);
            DUE.is("13: as it was ahead of act " + act, Due.seen(x).equals(seen[act]) ? 1 : 0, 1);
        }
        DUE.is("13: undo(), none", x.undo(), DustVote.STATE);
        DUE.is("13: refused, changes nothing", Due.seen(x).equals(seen[0]) ? 1 : 0, 1);
    }

    private static void rowOfFourteen() {
        DustVote x = Due.city("B00000000N010");
        for (int act = 1; act <= 20; act++) {
            x.walk(0, 1);
            DUE.is("13: count(8) behind " + act, x.count(8), Math.min(act, 14));
        }
        DUE.is("13: broom(0, 0) behind 20", x.broom(0, 0), 4);
        for (int left = 13; left >= 0; left--) {
            DUE.is("13: undo() of fourteen", x.undo(), left);
            DUE.is("13: broom(0, 0) with " + left + " left", x.broom(0, 0), (6 + left) % 8);
        }
        DUE.is("13: undo(), forgotten", x.undo(), DustVote.STATE);
        DUE.is("13: broom(0, 0) at the seventh", x.broom(0, 0), 6);
        DUE.is("13: an act behind undone ones", x.dawn(), 0);
        DUE.is("13: count(8) then", x.count(8), 1);
    }
}
