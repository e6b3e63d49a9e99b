import java.math.BigInteger;

/** The edges of promises 20 to 27, heaps, shares, rests and chances: one method for each sentence. */
public final class ChanceEdgeTest {
    private static final int OUTSIDE = DustVote.OUTSIDE, FULL = DustVote.FULL, NONE = DustVote.NONE;
    private static final BigInteger SIZE = BigInteger.TWO.pow(64);
    private static final BigInteger TIMES = new BigInteger("6364136223846793005");
    private static final BigInteger AND = new BigInteger("1442695040888963407");
    private static final Due DUE = new Due("ChanceEdgeTest");

    public static void main(String[] args) {
        heapsOf0To20And0To9();
        sixHeapsAtMost();
        whoseByOneHeap();
        whoseOfAllHeaps();
        shareInEachOrderAsLikely();
        shareBehindSixDawns();
        shareBelow0();
        shareOthersDoNothing();
        restsIfNeitherHasMore();
        restsForThreeDawns();
        restsWhereItIs();
        restsOthersAsTheyDo();
        restsOfALeaner();
        twiceByTenths();
        twiceInLeastTerms();
        twiceKneeDeepBy10();
        twiceFromNowOn();
        theSeedIsALong();
        yearsWrapIn64Bits();
        yearsByEachLot();
        yearsOfWhatIsNotThere();
        yearsOf1To30();
        nothingChangesButTheSeed();
        DUE.end();
    }

    private static void heapsOf0To20And0To9() {
        for (int d : new int[] {-1, 0, 20, 21}) {
            for (int r : new int[] {-1, 0, 20, 21}) {
                for (int g : new int[] {-1, 0, 9, 10}) {
                    boolean fine = d >= 0 && d <= 20 && r >= 0 && r <= 20 && g >= 0 && g <= 9;
                    DustVote x = new DustVote();
                    DUE.is("20: heap(" + d + ", " + r + ", " + g + ")", x.heap(d, r, g), fine ? 1 : OUTSIDE);
                    DUE.is("20: count(9) behind it", x.count(9), fine ? 1 : 0);
                }
            }
        }
    }

    private static void sixHeapsAtMost() {
        DustVote x = new DustVote();
        DUE.is("21: unheap() of none", x.unheap(), 0);
        for (int round = 0; round < 2; round++) {
            for (int many = 1; many <= 6; many++) {
                DUE.is("20: heap " + many, x.heap(many, 0, 0), many);
                DUE.is("30: count(9)", x.count(9), many);
            }
            DUE.is("20: heap 7", x.heap(7, 0, 0), FULL);
            DUE.is("20: heap 7, outside", x.heap(7, 0, 10), OUTSIDE);
            DUE.is("22: the seventh does not count", x.whose(1), 6);
            DUE.is("21: unheap() of six", x.unheap(), 6);
            DUE.is("21: unheap() of none", x.unheap(), 0);
            DUE.is("21: whose(0) of none", x.whose(0), 18);
        }
    }

    /** Each kind and strength at each dust: what it does itself fits it, and those it can not be told from. */
    private static void whoseByOneHeap() {
        DustVote x = new DustVote();
        DUE.is("22: whose(0), no heaps", x.whose(0), 18);
        DUE.is("22: whose(1), no heaps", x.whose(1), 1);
        for (int d = 0; d <= 20; d++) {
            for (int strength = 1; strength <= 9; strength++) {
                int gone = strength < d ? strength : d;
                oneHeap(d, d - gone, 0, d == 0 ? 18 : strength < d ? 1 : 10 - d, d == 0 ? 1 : gone);
                oneHeap(d, d - gone, gone, d == 0 ? 18 : strength < d ? 1 : 10 - d, d == 0 ? 1 : 10 + gone);
            }
        }
        oneHeap(20, 10, 0, 0, NONE);
        oneHeap(20, 11, 0, 1, 9);
        oneHeap(20, 19, 0, 1, 1);
        oneHeap(20, 20, 0, 0, NONE);
        oneHeap(9, 0, 0, 1, 9);
        oneHeap(9, 0, 9, 1, 19);
        oneHeap(10, 0, 0, 0, NONE);
        oneHeap(1, 0, 0, 9, 1);
        oneHeap(1, 0, 1, 9, 11);
        oneHeap(1, 1, 0, 0, NONE);
        oneHeap(5, 6, 0, 0, NONE);
        oneHeap(5, 3, 1, 0, NONE);
        oneHeap(5, 3, 3, 0, NONE);
        oneHeap(0, 0, 1, 0, NONE);
        oneHeap(0, 1, 0, 0, NONE);
    }

    private static void oneHeap(int d, int r, int g, int many, int first) {
        DustVote x = new DustVote();
        x.heap(d, r, g);
        DUE.is("22: whose(0) of " + d + ", " + r + ", " + g, x.whose(0), many);
        DUE.is("22: whose(1) of " + d + ", " + r + ", " + g, x.whose(1), first);
    }

    private static void whoseOfAllHeaps() {
        for (int odd = 0; odd < 6; odd++) {
            DustVote x = new DustVote();
            for (int i = 0; i < 6; i++) {
                x.heap(6, i == odd ? 1 : 0, i == odd ? 5 : 6);
            }
            DUE.is("22: whose(0), heap " + odd + " is not so", x.whose(0), 0);
            DUE.is("22: whose(1), heap " + odd + " is not so", x.whose(1), NONE);
        }
        DustVote x = new DustVote();
        x.vote();
        x.heap(6, 0, 6);
        DUE.is("22: whose(1), whatever the vote is here", x.whose(1), 16);
        DUE.is("22: whose(-1)", x.whose(-1), OUTSIDE);
        DUE.is("22: whose(2)", x.whose(2), OUTSIDE);
    }

    private static void shareOf(String text, int broom, int above, int below) {
        DustVote x = Due.city(text);
        DUE.is("23: share(" + broom + ", true) of " + text, x.share(broom, true), above);
        DUE.is("23: share(" + broom + ", false) of " + text, x.share(broom, false), below);
    }

    /** Who comes first has it all: each broom's share is 9 by how many they are, in least terms. */
    private static void shareInEachOrderAsLikely() {
        int[][] want = {{9, 1}, {9, 2}, {3, 1}, {9, 4}, {9, 5}};
        for (int brooms = 1; brooms <= 5; brooms++) {
            String text = "B90000000" + "N090".repeat(brooms);
            for (int broom = 0; broom < brooms; broom++) {
                shareOf(text, broom, want[brooms - 1][0], want[brooms - 1][1]);
            }
        }
        // 6 of 9 by the weak one if alone, else nothing but what is ahead of the strong one.
        shareOf("B90000000N010N090", 0, 3, 1);
        shareOf("B90000000N010N090", 1, 6, 1);
        shareOf("B90000000N010N090N390N490", 0, 3, 1);
        shareOf("B90000000N010N090N390N490", 2, 0, 1);
    }

    private static void shareBehindSixDawns() {
        shareOf("B60000000N010", 0, 6, 1);
        shareOf("B70000000N010", 0, 6, 1);
        shareOf("B50000000N010", 0, 5, 1);
        shareOf("B00000000N090F01F01F01F01F01", 0, 6, 1);
        shareOf("B00000000N010F00F00F00F00F05", 0, 2, 1);
        shareOf("B00000000N090F03F00F00F00F00", 0, 6, 1);
        shareOf("B00000000N090F00F03F00F00F00", 0, 3, 1);
    }

    private static void shareBelow0() {
        shareOf("B50000000N091N020", 0, -5, 2);
        shareOf("B40000000N091N020", 0, -2, 1);
        shareOf("B10000000N091N010", 0, -1, 2);
        shareOf("B50000000N091N020N393", 0, -5, 2);
        shareOf("B50000000N091N020N393", 1, 5, 2);
        shareOf("B50000000N091N020N393", 2, 0, 1);
        shareOf("B50000000N091", 0, 0, 1);
        shareOf("B00000000N090", 0, 0, 1);
    }

    /** A leaner that comes does nothing by itself either; with the vote it sweeps. */
    private static void shareOthersDoNothing() {
        DustVote x = Due.city("B90000000N093N090");
        DUE.is("23: share(0, true)", x.share(0, true), 0);
        DUE.is("23: share(1, true)", x.share(1, true), 9);
        x.vote();
        DUE.is("23: share(0, true), with the vote", x.share(0, true), 9);
        DUE.is("23: share(0, false), with the vote", x.share(0, false), 2);
        x.vote();
        x.bend(0);
        DUE.is("23: share(0, false), bent", x.share(0, false), 2);
        DUE.is("23: share(2, true)", x.share(2, true), DustVote.UNKNOWN);
        DUE.is("23: share(2, false)", x.share(2, false), DustVote.UNKNOWN);
        DUE.is("23: share(-1, true)", x.share(-1, true), DustVote.UNKNOWN);
        DUE.is("23: share(-1, false)", x.share(-1, false), DustVote.UNKNOWN);
    }

    private static void restsOf(String text, int one, int other, int many, int first) {
        DustVote x = Due.city(text);
        DUE.is("24: rests(" + one + ", " + other + ", 0) of " + text, x.rests(one, other, 0), many);
        DUE.is("24: rests(" + one + ", " + other + ", 1) of " + text, x.rests(one, other, 1), first);
    }

    /** To work is worth 1 less, as much, or 1 more than it costs, by 3, 4 or 5 of dust. */
    private static void restsIfNeitherHasMore() {
        int[][] many = {{1, 2, 1}, {2, 4, 2}, {1, 2, 1}};
        int[][] first = {{0, 0, 1}, {0, 0, 1}, {10, 10, 11}};
        for (int one = 3; one <= 5; one++) {
            for (int other = 3; other <= 5; other++) {
                String text = "B" + one + "00" + other + "0000N090N390";
                restsOf(text, 0, 1, many[one - 3][other - 3], first[one - 3][other - 3]);
                restsOf(text, 1, 0, many[other - 3][one - 3], first[other - 3][one - 3]);
            }
        }
        restsOf("B50000000N090N090", 0, 1, 2, 1);
        restsOf("B40000000N090N090", 0, 1, 3, 0);
        restsOf("B30000000N090N090", 0, 1, 1, 0);
        restsOf("B15000000N292N171", 0, 1, 0, NONE);
        restsOf("B15000000N292N171", 1, 0, 0, NONE);
    }

    private static void restsForThreeDawns() {
        restsOf("B90000000N010N490", 0, 1, 1, 0);
        restsOf("B90000000N020N490", 0, 1, 1, 10);
        restsOf("B00000000N090N490F00F00F04F00F00", 0, 1, 2, 0);
        restsOf("B00000000N090N490F00F00F05F00F00", 0, 1, 1, 10);
        restsOf("B00000000N090N490F00F00F00F05F00", 0, 1, 1, 0);
    }

    private static void restsWhereItIs() {
        DustVote x = Due.city("B50000005N090N490");
        x.walk(0, 0);
        DUE.is("24: rests(0, 1, 1), in street 7", x.rests(0, 1, 1), 10);
        x.walk(0, 0);
        DUE.is("24: rests(0, 1, 1), in street 6", x.rests(0, 1, 1), 0);
        // A striker is rid of its dust when it moves it on, and the other one has it.
        restsOf("B50000000N091N190", 0, 1, 1, 11);
        restsOf("B50000000N091N193", 0, 1, 1, 10);
    }

    private static void restsOthersAsTheyDo() {
        restsOf("B50000000N090N490N090", 0, 1, 1, 0);
        restsOf("B50000000N090N490N093", 0, 1, 1, 10);
        restsOf("B50000000N490N390N290N190N090", 0, 4, 1, 1);
        restsOf("B50000000N490N390N290N190N090", 4, 0, 1, 10);
    }

    /** It does nothing even if it chooses to work, and has 4 less for it. */
    private static void restsOfALeaner() {
        DustVote x = Due.city("B50000000N093N490");
        DUE.is("24: rests(0, 1, 0), it leans", x.rests(0, 1, 0), 1);
        DUE.is("24: rests(0, 1, 1), it leans", x.rests(0, 1, 1), 0);
        x.vote();
        DUE.is("24: rests(0, 1, 1), with the vote", x.rests(0, 1, 1), 10);
        x.vote();
        x.bend(0);
        DUE.is("24: rests(0, 1, 1), bent", x.rests(0, 1, 1), 10);
    }

    private static void twiceOf(DustVote x, int street, int n, int tenths, int above, int below) {
        String call = "25: twice(" + street + ", " + n + ", " + tenths;
        DUE.is(call + ", true)", x.twice(street, n, tenths, true), above);
        DUE.is(call + ", false)", x.twice(street, n, tenths, false), below);
    }

    private static void twiceByTenths() {
        DustVote x = Due.city("B90000000F02");
        int[][] want = {{0, 1}, {1, 10}, {1, 5}, {3, 10}, {2, 5}, {1, 2}, {3, 5}, {7, 10}, {4, 5}, {9, 10}, {1, 1}};
        for (int tenths = 0; tenths <= 10; tenths++) {
            twiceOf(x, 0, 1, tenths, want[tenths][0], want[tenths][1]);
        }
        twiceOf(x, 0, 1, -1, OUTSIDE, OUTSIDE);
        twiceOf(x, 0, 1, 11, OUTSIDE, OUTSIDE);
        twiceOf(x, 0, 0, 5, OUTSIDE, OUTSIDE);
        twiceOf(x, 0, 7, 5, OUTSIDE, OUTSIDE);
        twiceOf(x, -1, 1, 5, DustVote.UNKNOWN, DustVote.UNKNOWN);
        twiceOf(x, 8, 1, 5, DustVote.UNKNOWN, DustVote.UNKNOWN);
        twiceOf(x, 7, 1, 10, 0, 1);
        twiceOf(Due.city("B00000009F72"), 7, 1, 5, 1, 2);
    }

    /** 3, 6, 7, 8, 9, 12 less 2 is 10: only if all six are twice as much. */
    private static void twiceInLeastTerms() {
        String text = "B00000000N090F06F06F05F05F05";
        int[][] want = {{0, 1}, {1, 1000000}, {1, 15625}, {729, 1000000}, {64, 15625}, {1, 64}, {729, 15625},
            {117649, 1000000}, {4096, 15625}, {531441, 1000000}, {1, 1}};
        for (int tenths = 0; tenths <= 10; tenths++) {
            twiceOf(Due.city(text), 0, 6, tenths, want[tenths][0], want[tenths][1]);
            twiceOf(Due.city(text), 0, 5, tenths, 0, 1);
        }
        // In each of two dawns by itself: 4 and 8, or 8 and 4, or 8 and 8.
        twiceOf(Due.city("B00000000F04"), 0, 2, 2, 9, 25);
        twiceOf(Due.city("B00000000F04"), 0, 2, 8, 24, 25);
    }

    private static void twiceKneeDeepBy10() {
        twiceOf(Due.city("B90000000F01"), 0, 1, 5, 0, 1);
        twiceOf(Due.city("B90000000F02"), 0, 1, 5, 1, 2);
        twiceOf(Due.city("B90000000F03"), 0, 1, 5, 1, 1);
        twiceOf(Due.city("B70000000F02"), 0, 1, 10, 0, 1);
        twiceOf(Due.city("B80000000F02"), 0, 1, 10, 1, 1);
        twiceOf(Due.city("B90000000"), 0, 6, 10, 0, 1);
        twiceOf(Due.city("B90000000F00"), 0, 6, 10, 0, 1);
    }

    private static void twiceFromNowOn() {
        DustVote x = Due.city("B90000000F02F00");
        twiceOf(x, 0, 1, 5, 1, 2);
        twiceOf(x, 0, 2, 5, 0, 1);
        x.dawn();
        twiceOf(x, 0, 1, 5, 0, 1);
        twiceOf(x, 0, 2, 5, 1, 2);
        x.vote();
        twiceOf(x, 0, 2, 5, 1, 2);
    }

    private static void theSeedIsALong() {
        DustVote x = new DustVote();
        long[] seeds = {1L, -1L, Long.MIN_VALUE, Long.MAX_VALUE, 1L << 32, 0L, Integer.MAX_VALUE + 1L};
        long was = 0L;
        for (long seed : seeds) {
            DUE.is("26: seed(" + seed + ")", x.seed(seed), was);
            was = seed;
        }
    }

    private static BigInteger next(BigInteger x) {
        return x.multiply(TIMES).add(AND).mod(SIZE);
    }

    private static int lot(BigInteger x) {
        return x.divide(BigInteger.TWO.pow(33)).mod(BigInteger.valueOf(32)).intValue();
    }

    private static BigInteger of(long seed) {
        return BigInteger.valueOf(seed).mod(SIZE);
    }

    private static void yearsWrapIn64Bits() {
        long[] seeds = {0L, 1L, -1L, Long.MIN_VALUE, Long.MAX_VALUE, 1L << 31, -77L};
        for (long seed : seeds) {
            for (int m : new int[] {1, 2, 29, 30}) {
                BigInteger want = of(seed);
                for (int i = 0; i < m; i++) {
                    want = next(want);
                }
                DustVote x = new DustVote();
                x.seed(seed);
                DUE.is("27: years(" + m + ") of no dust", x.years(m), 0);
                DUE.is("27: the seed behind years(" + m + ") of " + seed, x.seed(0L), want.longValue());
            }
        }
    }

    /** The least seed from a start on by which just this lot comes, and then a dawn (19 and more). */
    private static long seedWith(int first, long start) {
        for (long seed = start; seed < start + 1000000L; seed++) {
            BigInteger x = next(of(seed));
            if (lot(x) == first && lot(next(x)) >= 19) {
                return seed;
            }
        }
        throw new IllegalStateException("no seed for " + first);
    }

    private static DustVote busy() {
        return Due.city("B93715244N043N251N732N560N410F78F19");
    }

    private static void act(DustVote x, int lot) {
        if (lot <= 9) {
            x.walk(lot / 2, lot % 2);
        } else if (lot == 10) {
            x.vote();
        } else if (lot <= 18) {
            x.hand(lot - 11);
        } else {
            x.dawn();
        }
    }

    private static void yearsByEachLot() {
        for (long start : new long[] {0L, Long.MIN_VALUE, -5000000L, 1L << 40}) {
            for (int lot = 0; lot <= 31; lot++) {
                long seed = seedWith(lot, start);
                DustVote y = busy();
                act(y, lot);
                int sum = y.count(4);
                DustVote x = busy();
                x.seed(seed);
                DUE.is("27: years(1) by lot " + lot + ", seed " + seed, x.years(1), sum);
                x.seed(seed);
                DUE.is("27: years(2) by lot " + lot + ", seed " + seed, x.years(2), sum + y.dawn());
            }
        }
    }

    /** Walks of brooms that are not there, streets without dust: the time counts, nothing happens. */
    private static void yearsOfWhatIsNotThere() {
        StringBuilder text = new StringBuilder("B50000005");
        for (int brooms = 0; brooms <= 5; brooms++) {
            for (int lot = 0; lot <= 9; lot++) {
                DustVote x = Due.city(text + "F11");
                DustVote y = Due.city(text + "F11");
                if (lot / 2 < brooms) {
                    y.walk(lot / 2, lot % 2);
                }
                x.seed(seedWith(lot, 0L));
                DUE.is("27: years(2) by lot " + lot + " of " + brooms + " brooms", x.years(2), 10 + y.dawn());
            }
            text.append("N060");
        }
        for (int lot = 11; lot <= 18; lot++) {
            DustVote x = Due.city("B30000004");
            x.seed(seedWith(lot, 0L));
            DUE.is("27: years(1) by lot " + lot, x.years(1), lot == 11 ? 4 : lot == 18 ? 3 : 7);
        }
    }

    private static void yearsOf1To30() {
        long[] seeds = {0L, 1L, -1L, Long.MIN_VALUE, Long.MAX_VALUE, 123456789L};
        for (long seed : seeds) {
            for (int m : new int[] {1, 2, 15, 29, 30}) {
                DustVote x = busy();
                DustVote y = busy();
                x.seed(seed);
                BigInteger chance = of(seed);
                int sum = 0;
                for (int i = 0; i < m; i++) {
                    chance = next(chance);
                    act(y, lot(chance));
                    sum += y.count(4);
                }
                DUE.is("27: years(" + m + ") of seed " + seed, x.years(m), sum);
            }
        }
        DustVote x = busy();
        x.seed(4L);
        DUE.is("27: years(0)", x.years(0), OUTSIDE);
        DUE.is("27: years(31)", x.years(31), OUTSIDE);
        DUE.is("27: the seed, refused", x.seed(0L), 4);
    }

    private static void nothingChangesButTheSeed() {
        DustVote x = busy();
        DustVote y = busy();
        x.bend(1);
        y.bend(1);
        x.keep(0);
        y.keep(0);
        x.share(4, true);
        x.rests(0, 4, 0);
        x.twice(7, 6, 5, false);
        x.years(30);
        x.seed(0L);
        DUE.is("23 to 27: nothing changes but the seed", Due.spent(x), Due.spent(y));
    }
}
