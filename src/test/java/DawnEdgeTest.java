/** The edges of a dawn, as the terms tell it: one method for each sentence. */
public final class DawnEdgeTest {
    private static final Due DUE = new Due("DawnEdgeTest");

    public static void main(String[] args) {
        rightAndLeftInTheRing();
        asMuchAsItsStrengthOrAll();
        aStrikerMovesItToTheRight();
        aBesomDoesNextDoorByHalfCut();
        aBesomAtEachEndOfHalf();
        whoWorksAsWhat();
        byNumber();
        theFallIsFirst();
        theFallByTheDawn();
        noFallIsNothing();
        kneeDeepBy10();
        kneeDeepIsAskedBehindTheBrooms();
        allAtOnce();
        dustIs99AtMost();
        dustOf99ByAStriker();
        whatIsBlownAwayIsGone();
        dustOf99InTheMiddleOfADawn();
        dustIs0AtLeast();
        theDawnIsOneMore();
        DUE.end();
    }

    private static String text(int[] dust, int by, String... parts) {
        StringBuilder text = new StringBuilder("B");
        for (int street = 0; street < 8; street++) {
            text.append(dust[(street - by + 8) % 8]);
        }
        for (String part : parts) {
            text.append(part.charAt(0)).append((part.charAt(1) - '0' + by) % 8).append(part.substring(2));
        }
        return text.toString();
    }

    private static String row(int[] dust, int by) {
        StringBuilder row = new StringBuilder();
        for (int street = 0; street < 8; street++) {
            row.append(street == 0 ? "" : " ").append(dust[(street - by + 8) % 8]);
        }
        return row.toString();
    }

    private static int[] dust(int... eight) {
        return eight;
    }

    /** One dawn, with the whole city turned round the ring by each number of streets. */
    private static void dawn(String why, int[] before, int[] behind, String... parts) {
        int sum = 0;
        for (int d : behind) {
            sum += d;
        }
        for (int by = 0; by < 8; by++) {
            String city = text(before, by, parts);
            DustVote x = Due.city(city);
            DUE.is("8: dawn() of " + city + ": " + why, x.dawn(), sum);
            DUE.is("8: dust of " + city + ": " + why, Due.dusts(x), row(behind, by));
        }
    }

    private static void rightAndLeftInTheRing() {
        dawn("a plain one, in its street alone", dust(5, 5, 5, 5, 5, 5, 5, 5), dust(2, 5, 5, 5, 5, 5, 5, 5), "N030");
        dawn("a striker, to the right", dust(5, 0, 0, 0, 0, 0, 0, 0), dust(2, 3, 0, 0, 0, 0, 0, 0), "N031");
        dawn("a besom, left and right", dust(5, 5, 5, 5, 5, 5, 5, 5), dust(1, 3, 5, 5, 5, 5, 5, 3), "N042");
        dawn("a fall", dust(0, 0, 0, 0, 0, 0, 0, 0), dust(7, 0, 0, 0, 0, 0, 0, 0), "F07");
        dawn("knee-deep, left and right", dust(9, 0, 0, 0, 0, 0, 0, 0), dust(8, 1, 0, 0, 0, 0, 0, 1), "F01");
    }

    private static void asMuchAsItsStrengthOrAll() {
        for (int strength = 1; strength <= 9; strength++) {
            for (int had = 0; had <= 9; had++) {
                int left = had > strength ? had - strength : 0;
                dawn("as much as its strength, or all", dust(had, 1, 0, 0, 0, 0, 0, 1), dust(left, 1, 0, 0, 0, 0, 0, 1),
                    "N0" + strength + "0");
            }
        }
        dawn("one less", dust(3, 0, 0, 0, 0, 0, 0, 0), dust(0, 0, 0, 0, 0, 0, 0, 0), "N040");
        dawn("just as much", dust(4, 0, 0, 0, 0, 0, 0, 0), dust(0, 0, 0, 0, 0, 0, 0, 0), "N040");
        dawn("one more", dust(5, 0, 0, 0, 0, 0, 0, 0), dust(1, 0, 0, 0, 0, 0, 0, 0), "N040");
    }

    private static void aStrikerMovesItToTheRight() {
        dawn("nothing to move", dust(0, 2, 0, 0, 0, 0, 0, 0), dust(0, 2, 0, 0, 0, 0, 0, 0), "N041");
        dawn("one less", dust(3, 2, 0, 0, 0, 0, 0, 0), dust(0, 5, 0, 0, 0, 0, 0, 0), "N041");
        dawn("just as much", dust(4, 2, 0, 0, 0, 0, 0, 0), dust(0, 6, 0, 0, 0, 0, 0, 0), "N041");
        dawn("one more", dust(5, 2, 0, 0, 0, 0, 0, 0), dust(1, 6, 0, 0, 0, 0, 0, 0), "N041");
        dawn("strength 1", dust(5, 2, 0, 0, 0, 0, 0, 0), dust(4, 3, 0, 0, 0, 0, 0, 0), "N011");
        dawn("strength 9", dust(9, 0, 0, 0, 0, 0, 0, 0), dust(0, 9, 0, 0, 0, 0, 0, 0), "N091");
    }

    private static void aBesomDoesNextDoorByHalfCut() {
        int[] half = {0, 0, 1, 1, 2, 2, 3, 3, 4, 4};
        for (int strength = 1; strength <= 9; strength++) {
            int own = 9 - strength;
            int side = 9 - half[strength];
            dawn("half of " + strength + ", cut", dust(9, 9, 3, 3, 3, 3, 3, 9), dust(own, side, 3, 3, 3, 3, 3, side),
                "N0" + strength + "2");
        }
    }

    private static void aBesomAtEachEndOfHalf() {
        dawn("half is 3: one less", dust(6, 2, 0, 0, 0, 0, 0, 2), dust(0, 0, 0, 0, 0, 0, 0, 0), "N062");
        dawn("half is 3: as much", dust(7, 3, 0, 0, 0, 0, 0, 3), dust(1, 0, 0, 0, 0, 0, 0, 0), "N062");
        dawn("half is 3: one more", dust(5, 4, 0, 0, 0, 0, 0, 4), dust(0, 1, 0, 0, 0, 0, 0, 1), "N062");
        dawn("each for itself", dust(0, 9, 0, 0, 0, 0, 0, 1), dust(0, 6, 0, 0, 0, 0, 0, 0), "N062");
        dawn("each for itself, the other way", dust(0, 1, 0, 0, 0, 0, 0, 9), dust(0, 0, 0, 0, 0, 0, 0, 6), "N072");
        dawn("strength 1 does nothing next door", dust(0, 1, 0, 0, 0, 0, 0, 1), dust(0, 1, 0, 0, 0, 0, 0, 1), "N012");
    }

    /** What each kind works as, by the vote and by its bending, told and done. */
    private static void whoWorksAsWhat() {
        int[][] as = {{0, 0, 0, 0}, {1, 0, 0, 0}, {2, 2, 2, 2}, {3, 0, 0, 0}};
        String[] behind = {"3 4 0 0 0 0 0 4", "3 6 0 0 0 0 0 4", "3 3 0 0 0 0 0 3", "5 4 0 0 0 0 0 4"};
        for (int kind = 0; kind <= 3; kind++) {
            for (int how = 0; how <= 3; how++) {
                DustVote x = Due.city("B54000004N02" + kind + "N48" + (kind == 0 ? 3 : 0));
                if ((how & 1) == 1) {
                    x.vote();
                }
                if ((how & 2) == 2) {
                    x.bend(0);
                }
                String call = " of kind " + kind + ", vote " + (how & 1) + ", bent " + (how >> 1);
                DUE.is("7: broom(0, 2)" + call, x.broom(0, 2), kind);
                DUE.is("7: broom(0, 3)" + call, x.broom(0, 3), how >> 1);
                DUE.is("7: broom(0, 4)" + call, x.broom(0, 4), as[kind][how]);
                x.dawn();
                DUE.is("8: dawn()" + call, Due.dusts(x), behind[as[kind][how]]);
            }
        }
        DustVote other = Due.city("B50000000N023N021");
        other.bend(1);
        DUE.is("7: broom(0, 4), another one bent", other.broom(0, 4), 3);
        other = Due.city("B50000000N023N021");
        other.bend(0);
        DUE.is("7: broom(1, 4), another one bent", other.broom(1, 4), 1);
    }

    private static void byNumber() {
        dawn("moved on, then swept", dust(4, 0, 0, 0, 0, 0, 0, 0), dust(0, 1, 0, 0, 0, 0, 0, 0), "N091", "N130");
        dawn("swept, then moved on", dust(4, 0, 0, 0, 0, 0, 0, 0), dust(0, 4, 0, 0, 0, 0, 0, 0), "N130", "N091");
        dawn("moved on twice", dust(4, 0, 0, 0, 0, 0, 0, 0), dust(0, 0, 4, 0, 0, 0, 0, 0), "N091", "N191");
        dawn("moved on once", dust(4, 0, 0, 0, 0, 0, 0, 0), dust(0, 4, 0, 0, 0, 0, 0, 0), "N191", "N091");
        dawn("all five", dust(5, 0, 0, 0, 0, 0, 0, 0), dust(0, 0, 0, 0, 0, 5, 0, 0), "N091", "N191", "N291", "N391", "N491");
        dawn("two in one street", dust(9, 0, 0, 0, 0, 0, 0, 0), dust(4, 0, 0, 0, 0, 0, 0, 0), "N020", "N030");
        dawn("a besom ahead of a striker", dust(5, 5, 0, 0, 0, 0, 0, 0), dust(0, 4, 0, 0, 0, 0, 0, 0), "N042", "N011");
        dawn("a striker ahead of a besom", dust(5, 1, 0, 0, 0, 0, 0, 0), dust(0, 0, 0, 0, 0, 0, 0, 0), "N011", "N042");
    }

    private static void theFallIsFirst() {
        dawn("what falls is swept", dust(0, 0, 0, 0, 0, 0, 0, 0), dust(2, 0, 0, 0, 0, 0, 0, 0), "N030", "F05");
        dawn("what falls is moved on", dust(0, 0, 0, 0, 0, 0, 0, 0), dust(2, 3, 0, 0, 0, 0, 0, 0), "N031", "F05");
        dawn("a fall of 0", dust(4, 0, 0, 0, 0, 0, 0, 0), dust(4, 0, 0, 0, 0, 0, 0, 0), "F00");
        dawn("a fall of 9", dust(0, 0, 0, 0, 0, 0, 0, 0), dust(9, 0, 0, 0, 0, 0, 0, 0), "F09");
    }

    /** Each fall is in a street of its own, so the dawns of each can be told apart. */
    private static void theFallByTheDawn() {
        for (int falls = 1; falls <= 5; falls++) {
            StringBuilder text = new StringBuilder("B00000000");
            for (int fall = 0; fall < falls; fall++) {
                text.append('F').append(fall).append('1');
            }
            DustVote x = Due.city(text.toString());
            for (int dawn = 0; dawn < 12; dawn++) {
                int[] was = new int[8];
                for (int street = 0; street < 8; street++) {
                    was[street] = x.street(street, 0);
                }
                was[dawn % falls]++;
                // A street that comes to 10 gives 2 of it away; no dawn but that of one fall comes so far.
                if (was[dawn % falls] == 10) {
                    was[0] -= 2;
                    was[1]++;
                    was[7]++;
                }
                x.dawn();
                DUE.is("8: dawn " + dawn + " of " + falls + " falls", Due.dusts(x), row(was, 0));
            }
        }
    }

    private static void noFallIsNothing() {
        DustVote x = Due.city("B91919191");
        for (int dawn = 1; dawn <= 7; dawn++) {
            DUE.is("8: dawn() without falls", x.dawn(), 40);
            DUE.is("8: the dawn", x.count(3), dawn);
        }
        DUE.is("8: dust without falls", Due.dusts(x), "9 1 9 1 9 1 9 1");
    }

    private static void kneeDeepBy10() {
        dawn("9 is not", dust(8, 0, 0, 0, 0, 0, 0, 0), dust(9, 0, 0, 0, 0, 0, 0, 0), "F01");
        dawn("10 is", dust(8, 0, 0, 0, 0, 0, 0, 0), dust(8, 1, 0, 0, 0, 0, 0, 1), "F02");
        dawn("11 is", dust(8, 0, 0, 0, 0, 0, 0, 0), dust(9, 1, 0, 0, 0, 0, 0, 1), "F03");
        dawn("12 is, and still then", dust(8, 0, 0, 0, 0, 0, 0, 0), dust(10, 1, 0, 0, 0, 0, 0, 1), "F04");
        int[] told = {2, 3, 4};
        for (int more : told) {
            DustVote x = Due.city("B90000000F0" + more);
            x.dawn();
            int deep = more >= 3 ? 1 : 0;
            DUE.is("6: street(0, 0)", x.street(0, 0), 7 + more);
            DUE.is("6: street(0, 1) of " + (7 + more), x.street(0, 1), deep);
            DUE.is("30: count(5) of " + (7 + more), x.count(5), deep);
            DUE.is("15: knees(0) of " + (7 + more), x.knees(0), deep);
        }
    }

    private static void kneeDeepIsAskedBehindTheBrooms() {
        dawn("swept to 9", dust(9, 0, 0, 0, 0, 0, 0, 0), dust(9, 0, 0, 0, 0, 0, 0, 0), "N020", "F02");
        dawn("swept to 10", dust(9, 0, 0, 0, 0, 0, 0, 0), dust(8, 1, 0, 0, 0, 0, 0, 1), "N010", "F02");
        dawn("moved up to 9", dust(4, 5, 0, 0, 0, 0, 0, 0), dust(0, 9, 0, 0, 0, 0, 0, 0), "N041");
        dawn("moved up to 10", dust(5, 5, 0, 0, 0, 0, 0, 0), dust(1, 8, 1, 0, 0, 0, 0, 0), "N051");
    }

    private static void allAtOnce() {
        dawn("9 to the right of 10 gives nothing", dust(9, 9, 0, 0, 0, 0, 0, 0), dust(8, 10, 0, 0, 0, 0, 0, 1), "F01");
        dawn("9 to the left of 10 gives nothing", dust(9, 0, 0, 0, 0, 0, 0, 9), dust(8, 1, 0, 0, 0, 0, 0, 10), "F01");
        dawn("10 beside 10", dust(9, 9, 0, 0, 0, 0, 0, 0), dust(9, 9, 1, 0, 0, 0, 0, 1), "F02", "N011");
        dawn("8 between gets from both", dust(9, 9, 9, 0, 0, 0, 0, 0), dust(8, 10, 8, 1, 0, 0, 0, 1), "F01", "N111");
    }

    /**
     * Street 0 with 97: a fall makes it 99, then 2 of it go next door, where they are done by hand; but in the
     * last dawns street 7 is let be, so that it has as much as they are. The next fall is the last one told.
     */
    private static DustVote high(int lastFall, int besideIt, String brooms) {
        DustVote x = Due.city("B00000000F09F09F09F09F0" + lastFall + brooms);
        for (int dawn = 1; dawn <= 19; dawn++) {
            x.dawn();
            x.hand(1);
            if (dawn <= 19 - besideIt) {
                x.hand(7);
            }
        }
        DUE.is("8: dust, high", Due.dusts(x), "97 0 0 0 0 0 0 " + besideIt);
        return x;
    }

    private static void dustIs99AtMost() {
        int[] falls = {0, 1, 2, 3, 4, 9};
        int[] want = {95, 96, 97, 97, 97, 97};
        for (int i = 0; i < falls.length; i++) {
            DustVote x = high(falls[i], 0, "");
            DUE.is("14: dust(0, 1), 97 and " + falls[i], x.dust(0, 1), want[i]);
            DUE.is("8: dawn(), 97 and " + falls[i], x.dawn(), want[i] + 2);
            DUE.is("8: street(0, 0), 97 and " + falls[i], x.street(0, 0), want[i]);
            DUE.is("8: street(1, 0), 97 and " + falls[i], x.street(1, 0), 1);
        }
    }

    private static void dustOf99ByAStriker() {
        int[] want = {95, 96, 97, 97, 97};
        for (int moved = 0; moved <= 4; moved++) {
            DustVote x = high(0, moved, "N691");
            x.walk(0, 1);
            x.dawn();
            DUE.is("8: dust, 97 and " + moved + " moved on", Due.dusts(x), want[moved] + " 1 0 0 0 0 0 1");
        }
        DustVote weak = high(0, 4, "N631");
        weak.walk(0, 1);
        weak.dawn();
        DUE.is("8: dust, 3 of 4 moved on, 1 of them blown away", Due.dusts(weak), "97 1 0 0 0 0 0 2");
    }

    private static void whatIsBlownAwayIsGone() {
        DustVote x = high(9, 0, "N793");
        x.vote();
        x.walk(0, 1);
        x.dawn();
        DUE.is("8: street(0, 0), 99 less 9 less 2", x.street(0, 0), 88);
    }

    private static void dustOf99InTheMiddleOfADawn() {
        DustVote x = high(9, 0, "N093N093N093N093N093");
        x.vote();
        x.dawn();
        DUE.is("8: street(0, 0), 99 less 45 less 2", x.street(0, 0), 52);
        DustVote two = high(9, 0, "N093N093N093N093N093");
        two.vote();
        DUE.is("25: twice as much makes no more than 99", two.twice(0, 2, 10, true), 1);
        DUE.is("25: twice as much is 99 less 47, 23, 0", two.twice(0, 3, 10, true), 0);
    }

    private static void dustIs0AtLeast() {
        dawn("two are stronger than there is", dust(4, 0, 0, 0, 0, 0, 0, 0), dust(0, 0, 0, 0, 0, 0, 0, 0), "N030", "N090");
        dawn("nothing is there", dust(0, 0, 0, 0, 0, 0, 0, 0), dust(0, 0, 0, 0, 0, 0, 0, 0), "N090", "N192", "N291");
    }

    private static void theDawnIsOneMore() {
        DustVote x = new DustVote();
        for (int dawn = 1; dawn <= 400; dawn++) {
            x.dawn();
        }
        DUE.is("8: count(3) behind 400", x.count(3), 400);
        DustVote turns = Due.city("B00000000N790F70F70F70F70F75");
        for (int dawn = 1; dawn <= 303; dawn++) {
            turns.dawn();
        }
        turns.walk(0, 0);
        DUE.is("8: dawn() 303, the fourth fall", turns.dawn(), 0);
        DUE.is("8: dawn() 304, the fifth fall", turns.dawn(), 5);
        DUE.is("8: dawn() 305, the first fall", turns.dawn(), 5);
    }
}
