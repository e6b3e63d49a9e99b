/** Promises 14 to 19: dust, knees, knee, best, bends, judge. */
public final class DawnsTest {
    private static final Due DUE = new Due("DawnsTest");

    public static void main(String[] args) {
        dawnsToCome();
        knee();
        best();
        bends();
        judge();
        nothingChanges();
        DUE.end();
    }

    private static void dawnsToCome() {
        DustVote x = Due.city("B97531000N021N433F09F28F77");
        DustVote y = Due.city("B97531000N021N433F09F28F77");
        for (int n = 0; n <= 30; n++) {
            for (int street = 0; street < 8; street++) {
                DUE.is("14: dust(" + street + ", " + n + ")", x.dust(street, n), y.street(street, 0));
            }
            DUE.is("15: knees(" + n + ")", x.knees(n), y.count(5));
            y.dawn();
        }
        DUE.is("14: dust(8, 0)", x.dust(8, 0), DustVote.UNKNOWN);
        DUE.is("14: dust(-1, 31)", x.dust(-1, 31), DustVote.UNKNOWN);
        DUE.is("14: dust(0, 31)", x.dust(0, 31), DustVote.OUTSIDE);
        DUE.is("14: dust(0, -1)", x.dust(0, -1), DustVote.OUTSIDE);
        DUE.is("15: knees(31)", x.knees(31), DustVote.OUTSIDE);
        DUE.is("15: knees(-1)", x.knees(-1), DustVote.OUTSIDE);
        DustVote two = Due.city("B00900900F23F53");
        DUE.is("15: knees(0)", two.knees(0), 0);
        DUE.is("15: knees(1)", two.knees(1), 4);
        DUE.is("15: knees(2)", two.knees(2), 32);
        two.dawn();
        DUE.is("15: knees(1) a dawn on", two.knees(1), 32);
    }

    private static void kneeOf(String text, int when, int which) {
        DustVote x = Due.city(text);
        DUE.is("16: knee(0) of " + text, x.knee(0), when);
        DUE.is("16: knee(1) of " + text, x.knee(1), which);
    }

    private static void knee() {
        kneeOf("B99999999", DustVote.NONE, DustVote.NONE);
        kneeOf("B00000090F63", 1, 6);
        kneeOf("B00000090F60F60F60F63", 4, 6);
        kneeOf("B00000000F04", 3, 0);
        kneeOf("B09090000F32F13", 2, 1);
        kneeOf("B90900000F11F19", 2, 0);
        DustVote x = Due.city("B99999999F03");
        x.dawn();
        DUE.is("16: knee(0) now", x.knee(0), 0);
        DUE.is("16: knee(1) now, the least", x.knee(1), 0);
        x.hand(0);
        DUE.is("16: knee(1) now, the next", x.knee(1), 1);
        DUE.is("16: knee(2)", x.knee(2), DustVote.OUTSIDE);
        DUE.is("16: knee(-1)", x.knee(-1), DustVote.OUTSIDE);
        kneeAtTheEnd();
    }

    /**
     * Street 0 spills at 10, so its neighbours, not itself, are knee-deep first: when 28 have
     * fallen, which is at the 34th dawn if it falls in four dawns of five.
     */
    private static void kneeAtTheEnd() {
        kneeOf("B00000000F01", 28, 1);
        DustVote x = Due.city("B00000000F01F01F01F01F00");
        DUE.is("16: knee(0), in 34", x.knee(0), DustVote.NONE);
        for (int n = 0; n < 3; n++) {
            x.dawn();
        }
        DUE.is("16: knee(0), in 31", x.knee(0), DustVote.NONE);
        DUE.is("16: knee(1), in 31", x.knee(1), DustVote.NONE);
        x.dawn();
        DUE.is("16: knee(0), in 30", x.knee(0), 30);
        DUE.is("16: knee(1), in 30", x.knee(1), 1);
    }

    private static void bestOf(String text, int broom, int n, int which, int much) {
        DustVote x = Due.city(text);
        DUE.is("17: best(" + broom + ", " + n + ", 0) of " + text, x.best(broom, n, 0), which);
        DUE.is("17: best(" + broom + ", " + n + ", 1) of " + text, x.best(broom, n, 1), much);
    }

    private static void best() {
        bestOf("B00000000N590", 0, 1, 0, 0);
        bestOf("B00900000N590", 0, 1, 2, 0);
        bestOf("B00500005N540", 0, 1, 2, 6);
        bestOf("B00500006N590", 0, 1, 7, 5);
        bestOf("B04040000N592", 0, 1, 2, 0);
        bestOf("B04040000N593", 0, 9, 0, 8);
        bestOf("B10000000N550N510F55", 1, 2, 0, 0);
        bestOf("B00000007N191N090", 0, 9, 7, 0);
        bestOf("B99999999F09N393", 0, 9, 0, 72 + 81);
        DustVote x = Due.city("B00900000N590");
        DUE.is("17: best(1, 0, 2)", x.best(1, 0, 2), DustVote.UNKNOWN);
        DUE.is("17: best(-1, 1, 0)", x.best(-1, 1, 0), DustVote.UNKNOWN);
        DUE.is("17: best(0, 0, 0)", x.best(0, 0, 0), DustVote.OUTSIDE);
        DUE.is("17: best(0, 10, 0)", x.best(0, 10, 0), DustVote.OUTSIDE);
        DUE.is("17: best(0, 9, 0)", x.best(0, 9, 0), 2);
        DUE.is("17: best(0, 1, 2)", x.best(0, 1, 2), DustVote.OUTSIDE);
        DUE.is("17: best(0, 1, -1)", x.best(0, 1, -1), DustVote.OUTSIDE);
        DUE.is("17: broom(0, 0) stays", x.broom(0, 0), 5);
    }

    private static void bendsOf(String text, int n, int want) {
        DUE.is("18: bends(" + n + ") of " + text, Due.city(text).bends(n), want);
    }

    private static void bends() {
        bendsOf("B00000000", 1, 0);
        bendsOf("B90000000F01N013", 1, 0);
        bendsOf("B90000000F03N013", 1, 1);
        bendsOf("B90000000F03N013", 9, 1);
        bendsOf("B90000000F03N013N013", 1, 1);
        bendsOf("B90000000F03N413N013", 1, 2);
        bendsOf("B90000000F04N013N013N013", 1, 3);
        bendsOf("B90000000F04N413N013N013", 1, 6);
        bendsOf("B90000000F04N413N013N013N023", 1, 8);
        bendsOf("B90000000F05N013N013N013", 1, 7);
        bendsOf("B90000000F07N013N013N013N013N013", 1, 31);
        bendsOf("B90000000F06N013N013N013N413N013", 1, 23);
        bendsOf("B90000000F08N013N013N013N013N013", 1, DustVote.NONE);
        bendsOf("B90000000F09N013", 1, DustVote.NONE);
        bendsOf("B90000000F00F03N013", 1, 0);
        bendsOf("B90000000F00F03N013", 2, 1);
        bendsOf("B90000000F09", 9, DustVote.NONE);
        DustVote x = Due.city("B90000000F04N013N013N013");
        x.bend(0);
        DUE.is("18: bends(1), one bent", x.bends(1), 2);
        x.vote();
        DUE.is("18: bends(1), the vote given", x.bends(1), 0);
        DUE.is("18: bends(0)", x.bends(0), DustVote.OUTSIDE);
        DUE.is("18: bends(10)", x.bends(10), DustVote.OUTSIDE);
        DUE.is("18: count(7) stays", x.count(7), 1);
        DustVote deep = Due.city("B90000000N090F03");
        deep.walk(0, 1);
        deep.dawn();
        deep.walk(0, 0);
        DUE.is("18: knee-deep now does not count", deep.bends(1), 0);
    }

    private static void judgeOf(DustVote x, int n, long row, int want) {
        DUE.is("19: judge(" + n + ", " + row + ")", x.judge(n, row), want);
    }

    private static void judge() {
        int none = DustVote.NONE;
        DustVote x = Due.city("B90000003N033N741F03");
        long[] can = {0, 100, 101, 110, 111, 200, 300, 301, 400, 407, 509, 573, 510};
        for (long row : can) {
            judgeOf(x, 1, row, none);
        }
        long[] canNot = {1, 10, 90, 102, 109, 120, 190, 201, 210, 302, 309, 310, 401, 408, 410, 511, 574, 580, 590,
            600, 608, 609, 610, 700, 800, 900, 999};
        for (long row : canNot) {
            judgeOf(x, 1, row, 0);
        }
        judgeOf(x, 2, 600L, none);
        judgeOf(x, 2, 601L, 1);
        judgeOf(x, 2, 300L, none);
        judgeOf(x, 2, 300000L, none);
        judgeOf(x, 4, 300200000600L, 3);
        judgeOf(x, 2, 300300L, 1);
        judgeOf(x, 2, 400400L, 1);
        judgeOf(x, 3, 400000506L, none);
        judgeOf(x, 3, 400000507L, 2);
        judgeOf(x, 4, 999L, 3);
        judgeOf(x, 4, 999999999999L, 0);
        judgeOf(x, 4, 0L, none);
        judgeOf(x, 4, 111111000521L, 3);
        judgeOf(x, 4, 111000511521L, 3);
        judgeOf(x, 4, 111000511514L, none);
        judgeOf(x, 2, 200600L, 1);
        judgeOf(x, 3, 200000509L, none);
        judgeOf(x, 4, 200200000600L, none);
        DustVote deep = Due.city("B90000000F04");
        judgeOf(deep, 3, 600400L, none);
        judgeOf(deep, 4, 600400600L, 3);
        judgeOf(x, 0, 0L, DustVote.OUTSIDE);
        judgeOf(x, 5, 0L, DustVote.OUTSIDE);
        judgeOf(x, 1, -1L, DustVote.OUTSIDE);
        judgeOf(x, 1, 1000L, DustVote.OUTSIDE);
        judgeOf(x, 2, 1000000L, DustVote.OUTSIDE);
        judgeOf(x, 3, 1000000000L, DustVote.OUTSIDE);
        judgeOf(x, 4, 1000000000000L, DustVote.OUTSIDE);
        judgeOf(x, 4, Long.MAX_VALUE, DustVote.OUTSIDE);
        judgeOf(x, 4, Long.MIN_VALUE, DustVote.OUTSIDE);
        x.bend(1);
        judgeOf(x, 1, 301L, 0);
        judgeOf(x, 1, 300L, none);
    }

    private static void nothingChanges() {
        DustVote x = Due.city("B97531000N021N433F09F28F77");
        x.dawn();
        x.bend(1);
        String before = Due.seen(x);
        x.dust(1, 30);
        x.knees(30);
        x.knee(0);
        x.best(0, 9, 0);
        x.bends(9);
        x.judge(4, 300400200L);
        DUE.is("14 to 19: nothing is changed", Due.seen(x).equals(before) ? 1 : 0, 1);
    }
}
