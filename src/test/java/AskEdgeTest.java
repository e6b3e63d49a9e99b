/** The edges of promises 14 to 19, where nothing is changed: one method for each sentence. */
public final class AskEdgeTest {
    private static final int OUTSIDE = DustVote.OUTSIDE, NONE = DustVote.NONE;
    private static final Due DUE = new Due("AskEdgeTest");

    public static void main(String[] args) {
        nothingIsChanged();
        inNDawnsOf0To30();
        kneeDeepStreetsAsBits();
        kneeIn0To30();
        kneeOfLikeOnesTheLeast();
        bestOfLikeOnesTheLeast();
        bestIsOneOfTheEight();
        bestFromNowOn();
        bestBehind1To9Dawns();
        bestHowMuch();
        bendTheFewest();
        bendOfLikeOnesTheLeast();
        bendOnlyThoseThatAreNotBent();
        bendBehindAnyOf1To9Dawns();
        bendNowIsNotAsked();
        bendNone();
        judgedRowsOf1To4Doings();
        judgedPlaces();
        judgedFiguresOfEachDoing();
        judgedByDust();
        judgedByTheKnee();
        judgedOneAfterTheOther();
        DUE.end();
    }

    private static void nothingIsChanged() {
        DustVote x = Due.city("B98765432N023N141N252F09F15");
        x.dawn();
        x.keep(1);
        x.vote();
        DustVote y = Due.city("B98765432N023N141N252F09F15");
        y.dawn();
        y.keep(1);
        y.vote();
        x.dust(7, 30);
        x.knees(30);
        x.knee(1);
        x.best(2, 9, 1);
        x.bends(9);
        x.judge(4, 101301407L);
        x.judge(4, 200000000301L);
        DUE.is("14 to 19: nothing is changed", Due.spent(x), Due.spent(y));
    }

    private static void inNDawnsOf0To30() {
        DustVote x = Due.city("B00000000N310F31F32F33F34F35");
        DustVote y = Due.city("B00000000N310F31F32F33F34F35");
        String[] then = new String[32];
        for (int n = 0; n <= 31; n++) {
            then[n] = Due.dusts(y);
            y.dawn();
        }
        for (int n = 0; n <= 30; n++) {
            StringBuilder row = new StringBuilder();
            for (int street = 0; street < 8; street++) {
                row.append(street == 0 ? "" : " ").append(x.dust(street, n));
            }
            DUE.is("14: dust(.., " + n + ")", row.toString(), then[n]);
        }
        DUE.is("14: 29, 30 and 31 dawns are not alike", then[30].equals(then[29]) || then[30].equals(then[31]) ? 1 : 0, 0);
        DUE.is("14: dust(3, 0) is that of now", x.dust(3, 0), 0);
        DUE.is("14: dust(3, -1)", x.dust(3, -1), OUTSIDE);
        DUE.is("14: dust(3, 31)", x.dust(3, 31), OUTSIDE);
        DUE.is("14: dust(-1, 30)", x.dust(-1, 30), DustVote.UNKNOWN);
        DUE.is("14: dust(8, 30)", x.dust(8, 30), DustVote.UNKNOWN);
    }

    private static void kneeDeepStreetsAsBits() {
        for (int street = 0; street < 8; street++) {
            StringBuilder text = new StringBuilder("B00000000");
            text.setCharAt(1 + street, '9');
            DustVote x = Due.city(text + "F" + street + "3");
            DUE.is("15: knees(0)", x.knees(0), 0);
            DUE.is("15: knees(1)", x.knees(1), 1 << street);
            x.dawn();
            DUE.is("15: knees(0), a dawn on", x.knees(0), 1 << street);
        }
        // Each street gives 1 to each side and gets as much, so that it stays at 10 and more.
        DustVote all = Due.city("B99999999N090N093F04F24F44F64F19");
        DUE.is("15: knees(0) of 9", all.knees(0), 0);
        DUE.is("15: knees(30)", all.knees(30), deepBehind("B99999999N090N093F04F24F44F64F19", 30));
        DUE.is("15: knees(-1)", all.knees(-1), OUTSIDE);
        DUE.is("15: knees(31)", all.knees(31), OUTSIDE);
        DustVote rest = Due.city("B99999999F09F29F49F69F09");
        DUE.is("15: knees(30), all", rest.knees(30), 255);
    }

    private static int deepBehind(String text, int dawns) {
        DustVote x = Due.city(text);
        for (int dawn = 0; dawn < dawns; dawn++) {
            x.dawn();
        }
        return x.count(5);
    }

    private static void kneeOf(String text, int when, int which) {
        DustVote x = Due.city(text);
        DUE.is("16: knee(0) of " + text, x.knee(0), when);
        DUE.is("16: knee(1) of " + text, x.knee(1), which);
    }

    private static void kneeIn0To30() {
        kneeOf("B99999999", NONE, NONE);
        kneeOf("B00000000", NONE, NONE);
        kneeOf("B90000000F02", 10, 1);
        kneeOf("B90000000F03", 1, 0);
        kneeOf("B90000000F00F03", 2, 0);
        DustVote now = Due.city("B90000000F03");
        now.dawn();
        DUE.is("16: knee(0), now", now.knee(0), 0);
        DUE.is("16: knee(1), now", now.knee(1), 0);
        now.undo();
        DUE.is("16: knee(0), in one", now.knee(0), 1);
        // Street 0 spills whenever it comes to 10; its neighbours have 10 when 28 have fallen, 4 in five dawns.
        for (int early = 0; early <= 6; early++) {
            DustVote x = Due.city("B00000000F01F01F01F01F00");
            for (int dawn = 0; dawn < early; dawn++) {
                x.dawn();
            }
            int when = 34 - early;
            DUE.is("16: knee(0), in " + when, x.knee(0), when <= 30 ? when : NONE);
            DUE.is("16: knee(1), in " + when, x.knee(1), when <= 30 ? 1 : NONE);
        }
        DUE.is("16: knee(-1)", now.knee(-1), OUTSIDE);
        DUE.is("16: knee(2)", now.knee(2), OUTSIDE);
    }

    private static void kneeOfLikeOnesTheLeast() {
        kneeOf("B09990000F25", 1, 1);
        kneeOf("B08980000F25", 1, 2);
        kneeOf("B99000009F01", 1, 1);
        kneeOf("B90000099F71", 1, 0);
        kneeOf("B00000999F61", 1, 5);
        kneeOf("B00000009F73", 1, 7);
    }

    private static void bestOf(String text, int broom, int n, int which, int much) {
        DustVote x = Due.city(text);
        DUE.is("17: best(" + broom + ", " + n + ", 0) of " + text, x.best(broom, n, 0), which);
        DUE.is("17: best(" + broom + ", " + n + ", 1) of " + text, x.best(broom, n, 1), much);
    }

    private static void bestOfLikeOnesTheLeast() {
        bestOf("B00000000N590", 0, 1, 0, 0);
        bestOf("B55555555N730", 0, 1, 0, 37);
        bestOf("B45555555N750", 0, 1, 1, 34);
        bestOf("B00000055N050", 0, 1, 6, 5);
        bestOf("B00000045N050", 0, 1, 7, 4);
        bestOf("B50000005N350", 0, 1, 0, 5);
        bestOf("B00000003N090", 0, 9, 7, 0);
        bestOf("B30000000N090", 0, 9, 0, 0);
        bestOf("B99999999N493", 0, 9, 0, 72);
        bestOf("B99999999N491", 0, 1, 0, 72);
        bestOf("B10000003N462", 0, 1, 0, 0);
        bestOf("B40000006N462", 0, 1, 7, 1);
        bestOf("B30000001N462", 0, 1, 0, 0);
    }

    /** A striker that is in the way of four besoms wherever it is: 13 would be left without it, 16 with it. */
    private static void bestIsOneOfTheEight() {
        bestOf("B96779949N071N582N362N752N162F10", 0, 1, 0, 16);
        DUE.is("8: dawn() without it", Due.city("B96779949N582N362N752N162F10").dawn(), 13);
    }

    /** It is in that street from the first dawn on, and in no other. */
    private static void bestFromNowOn() {
        bestOf("B00000000N590F29", 0, 1, 2, 0);
        bestOf("B00000000N590F25F34", 0, 1, 2, 0);
        bestOf("B00000000N590F25F34", 0, 2, 2, 4);
        bestOf("B00900000N020N010", 0, 3, 2, 3);
        bestOf("B00900000N020N210", 0, 3, 2, 0);
        bestOf("B00900000N020N210", 1, 3, 2, 6);
        DustVote x = Due.city("B00900000N020N210");
        x.best(0, 3, 0);
        DUE.is("17: it stays where it is", x.broom(0, 0), 0);
    }

    private static void bestBehind1To9Dawns() {
        for (int n = 1; n <= 9; n++) {
            bestOf("B00900000N010", 0, n, 2, 9 - n);
        }
        bestOf("B00800000N090F60F60F60F60F69", 0, 4, 2, 0);
        bestOf("B00800000N090F60F60F60F60F69", 0, 5, 6, 8);
        bestOf("B00900000N090F64F64F60F60F61", 0, 4, 2, 8);
        bestOf("B00900000N090F64F64F60F60F61", 0, 5, 2, 9);
        bestOf("B00900000N090F64F64F60F60F61", 0, 6, 6, 9);
        DustVote x = Due.city("B00900000N010");
        DUE.is("17: best(0, 0, 1)", x.best(0, 0, 1), OUTSIDE);
        DUE.is("17: best(0, 10, 1)", x.best(0, 10, 1), OUTSIDE);
        DUE.is("17: best(0, 1, -1)", x.best(0, 1, -1), OUTSIDE);
        DUE.is("17: best(0, 1, 2)", x.best(0, 1, 2), OUTSIDE);
    }

    private static void bestHowMuch() {
        bestOf("B99999999N093F09", 0, 9, 0, 153);
        bestOf("B00000000N010", 0, 9, 0, 0);
        bestOf("B99999999N090N190N290N390N490", 4, 1, 4, 27);
        bestOf("B99999999N090N190N290N390N490", 0, 1, 0, 27);
    }

    private static void bendsOf(String text, int n, int want) {
        DUE.is("18: bends(" + n + ") of " + text, Due.city(text).bends(n), want);
    }

    private static void bendTheFewest() {
        bendsOf("B00000000", 1, 0);
        bendsOf("B00000000N093", 9, 0);
        bendsOf("B90000000F02N013N013", 1, 0);
        bendsOf("B90000000F03N013N013", 1, 1);
        bendsOf("B90000000F04N013N013", 1, 3);
        bendsOf("B90000000F04N013N013N023", 1, 4);
        bendsOf("B90000000F05N013N013N013N013N033", 1, 16);
        bendsOf("B90000000F07N013N013N013N013N013", 1, 31);
    }

    private static void bendOfLikeOnesTheLeast() {
        bendsOf("B90000000F04N013N013N013N013N013", 1, 3);
        bendsOf("B90000000F04N413N013N013N013N013", 1, 6);
        bendsOf("B90000000F05N413N023N413N013N023", 1, 10);
        bendsOf("B90000000F05N413N413N013N023N023", 1, 12);
        // 5 must go: 0 with 3, or 1 with 2, which are bits 9 and 6.
        bendsOf("B90000000F07N013N023N033N043", 1, 6);
        bendsOf("B90000000F05N023N013N023N013N023", 1, 3);
    }

    private static void bendOnlyThoseThatAreNotBent() {
        DustVote x = Due.city("B90000000F05N013N013N013N013");
        DUE.is("18: bends(1), nobody bent", x.bends(1), 7);
        x.bend(1);
        DUE.is("18: bends(1), one bent", x.bends(1), 5);
        x.bend(0);
        DUE.is("18: bends(1), two bent", x.bends(1), 4);
        x.bend(3);
        DUE.is("18: bends(1), three bent", x.bends(1), 0);
        DustVote all = Due.city("B90000000F05N013");
        all.bend(0);
        DUE.is("18: bends(1), all bent and not enough", all.bends(1), NONE);
        DustVote given = Due.city("B90000000F05N013N013N013N013");
        given.vote();
        DUE.is("18: bends(1), with the vote", given.bends(1), 0);
    }

    /** The fifth fall is too much, in the fifth dawn, and then no more till the tenth. */
    private static void bendBehindAnyOf1To9Dawns() {
        String text = "B90000000F00F00F00F00F03N413N023";
        bendsOf(text, 4, 0);
        bendsOf(text, 5, 2);
        bendsOf(text, 9, 2);
        // Deep behind the first dawn alone: 12 less 2 is 10, then 8.
        String once = "B90000000F03F00F00F00F00N013";
        bendsOf(once, 1, 1);
        bendsOf(once, 2, 1);
        bendsOf(once, 9, 1);
        bendsOf("B90000000F03F00F00F00F00N413", 9, NONE);
        DustVote late = Due.city("B00000000F00F00F00F00F09N093");
        for (int dawn = 0; dawn < 5; dawn++) {
            late.dawn();
        }
        DUE.is("18: bends(4)", late.bends(4), 0);
        DUE.is("18: bends(5), 18 in the fifth dawn", late.bends(5), 1);
        late.undo();
        DUE.is("18: bends(5), 18 in the sixth dawn", late.bends(5), 0);
        DUE.is("18: bends(6), 18 in the sixth dawn", late.bends(6), 1);
        late.undo();
        late.undo();
        DUE.is("18: bends(7), 18 in the eighth dawn", late.bends(7), 0);
        DUE.is("18: bends(8), 18 in the eighth dawn", late.bends(8), 1);
        late.undo();
        DUE.is("18: bends(8), 18 in the ninth dawn", late.bends(8), 0);
        DUE.is("18: bends(9), 18 in the ninth dawn", late.bends(9), 1);
        late.undo();
        DUE.is("18: bends(9), 18 in the tenth dawn", late.bends(9), 0);
        DUE.is("18: bends(0)", late.bends(0), OUTSIDE);
        DUE.is("18: bends(10)", late.bends(10), OUTSIDE);
    }

    private static void bendNowIsNotAsked() {
        DustVote x = Due.city("B90000000F03F00N790");
        x.dawn();
        DUE.is("18: knee-deep now", x.count(5), 1);
        DUE.is("18: bends(1), 10 less 2 is 8", x.bends(1), 0);
        DustVote more = Due.city("B90000000F04F00N790");
        more.dawn();
        DUE.is("18: bends(1), 11 less 2 is 9", more.bends(1), 0);
        DustVote most = Due.city("B90000000F05F00N790");
        most.dawn();
        DUE.is("18: bends(1), 12 less 2 is 10", most.bends(1), NONE);
    }

    private static void bendNone() {
        bendsOf("B90000000F03", 1, NONE);
        bendsOf("B90000000F03N010", 1, 0);
        bendsOf("B90000000F04N010", 1, NONE);
        bendsOf("B90000000F08N013N013N013N013N013", 1, NONE);
        bendsOf("B99000000F01N013", 1, 1);
        bendsOf("B99000000F01N413", 1, NONE);
    }

    private static void judgeOf(DustVote x, int n, long row, int want) {
        DUE.is("19: judge(" + n + ", " + row + ")", x.judge(n, row), want);
    }

    private static void judgedRowsOf1To4Doings() {
        DustVote x = Due.city("B10000001N010");
        long last = 999L;
        for (int n = 1; n <= 4; n++) {
            judgeOf(x, n, 0L, NONE);
            judgeOf(x, n, last, 0);
            judgeOf(x, n, last + 1, OUTSIDE);
            judgeOf(x, n, -1L, OUTSIDE);
            last = last * 1000L + 999L;
        }
        judgeOf(x, 0, 0L, OUTSIDE);
        judgeOf(x, 5, 0L, OUTSIDE);
    }

    private static void judgedPlaces() {
        DustVote x = Due.city("B10000001N010");
        judgeOf(x, 4, 700_000_000_000L, 0);
        judgeOf(x, 4, 700_000_000L, 1);
        judgeOf(x, 4, 700_000L, 2);
        judgeOf(x, 4, 700L, 3);
        judgeOf(x, 4, 700_700L, 2);
        judgeOf(x, 4, 0L, NONE);
        judgeOf(x, 3, 700L, 2);
        judgeOf(x, 2, 700L, 1);
        judgeOf(x, 1, 700L, 0);
    }

    /** All thousand doings, of a city with dust in streets 0 and 7 and two brooms, the second of them bent. */
    private static void judgedFiguresOfEachDoing() {
        DustVote[] x = {judged(), judged(), judged()};
        for (int doing = 0; doing <= 999; doing++) {
            judgeOf(x[doing / 400], 1, doing, canBe(doing / 100, doing / 10 % 10, doing % 10) ? NONE : 0);
        }
    }

    private static DustVote judged() {
        DustVote x = Due.city("B90000003N033N743F03");
        x.dawn();
        x.bend(1);
        return x;
    }

    /** Behind that dawn streets 0, 1 and 7 have 10, 1 and 4. */
    private static boolean canBe(int first, int second, int third) {
        int[] dust = {10, 1, 0, 0, 0, 0, 0, 4};
        switch (first) {
            case 0:
            case 2:
                return second == 0 && third == 0;
            case 1:
                return second <= 1 && third <= 1;
            case 3:
                return second == 0 && third == 0;
            case 4:
                return second == 0 && (third == 0 || third == 1 || third == 7);
            case 5:
                return second <= 7 && dust[second] >= third;
            case 6:
                return second == 0 && third == 0;
            default:
                return false;
        }
    }

    private static void judgedByDust() {
        DustVote x = Due.city("B01234567N010");
        for (int street = 0; street < 8; street++) {
            for (int v = 0; v <= 9; v++) {
                judgeOf(x, 1, 500 + 10 * street + v, street >= v ? NONE : 0);
            }
        }
        judgeOf(x, 1, 580L, 0);
        judgeOf(x, 1, 590L, 0);
        judgeOf(Due.city("B00000009N010"), 1, 579L, NONE);
        judgeOf(Due.city("B00000008N010"), 1, 579L, 0);
    }

    private static void judgedByTheKnee() {
        int[] falls = {2, 3, 4};
        for (int fall : falls) {
            DustVote x = Due.city("B00000009F7" + fall);
            judgeOf(x, 1, 607L, 0);
            judgeOf(x, 2, 607L, fall >= 3 ? NONE : 1);
            x.dawn();
            judgeOf(x, 1, 607L, fall >= 3 ? NONE : 0);
            judgeOf(x, 1, 606L, 0);
            judgeOf(x, 1, 608L, 0);
            judgeOf(x, 2, 407607L, 1);
        }
    }

    private static void judgedOneAfterTheOther() {
        // Walked: left of 0 is 7, right of 7 is 0.
        DustVote ring = Due.city("B50000005N090");
        judgeOf(ring, 3, 100_000_571L, 2);
        judgeOf(ring, 3, 100_000_505L, NONE);
        judgeOf(ring, 4, 100_101_000_501L, 3);
        judgeOf(ring, 4, 100_101_000_575L, NONE);
        // Bent and vote: each makes a leaner work, the vote taken does not.
        DustVote leaner = Due.city("B50000000N093");
        judgeOf(leaner, 2, 505L, NONE);
        judgeOf(leaner, 3, 300_000_501L, 2);
        judgeOf(leaner, 3, 200_000_501L, 2);
        judgeOf(leaner, 4, 200_200_000_505L, NONE);
        judgeOf(leaner, 2, 300_300L, 1);
        judgeOf(leaner, 4, 300_200_200_300L, 3);
        // By hand: only if there is dust; what falls can be done again.
        DustVote hand = Due.city("B10000000F01");
        judgeOf(hand, 2, 400_400L, 1);
        judgeOf(hand, 3, 400_000_400L, NONE);
        judgeOf(hand, 4, 400_000_400_400L, 3);
        judgeOf(hand, 2, 400_501L, 1);
        judgeOf(hand, 2, 400_500L, NONE);
        // The dawn's fall goes by the dawn.
        DustVote falls = Due.city("B00000000F01F12");
        judgeOf(falls, 3, 501_512L, 2);
        judgeOf(falls, 4, 501_512L, NONE);
        judgeOf(falls, 4, 502_512L, 2);
        judgeOf(falls, 4, 512L, NONE);
        // What is asked changes nothing.
        judgeOf(hand, 4, 501_501_400_400L, 3);
    }
}
