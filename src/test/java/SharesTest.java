import java.math.BigInteger;

/** Promises 23 to 27: share, rests, twice, seed, years. */
public final class SharesTest {
    private static final Due DUE = new Due("SharesTest");
    private static final long TIMES = 6364136223846793005L;
    private static final long AND = 1442695040888963407L;

    public static void main(String[] args) {
        shares();
        rests();
        twice();
        seeds();
        years();
        nothingChanges();
        DUE.end();
    }

    private static void shareOf(DustVote x, int broom, int above, int below) {
        DUE.is("23: share(" + broom + ", true)", x.share(broom, true), above);
        DUE.is("23: share(" + broom + ", false)", x.share(broom, false), below);
    }

    private static void shares() {
        shareOf(new DustVote(), 0, DustVote.UNKNOWN, DustVote.UNKNOWN);
        DustVote alone = Due.city("B90000000N010");
        shareOf(alone, 0, 6, 1);
        shareOf(alone, 1, DustVote.UNKNOWN, DustVote.UNKNOWN);
        shareOf(alone, -1, DustVote.UNKNOWN, DustVote.UNKNOWN);
        DustVote two = Due.city("B90000000N020N090");
        shareOf(two, 0, 9, 2);
        shareOf(two, 1, 9, 2);
        DustVote three = Due.city("B80000000N020N070N090");
        shareOf(three, 0, 8, 3);
        shareOf(three, 2, 8, 3);
        DustVote idle = Due.city("B90000000N020N390N093");
        shareOf(idle, 0, 9, 1);
        shareOf(idle, 1, 0, 1);
        shareOf(idle, 2, 0, 1);
        idle.vote();
        shareOf(idle, 2, 9, 2);
        DustVote thief = Due.city("B50000000N091N020");
        shareOf(thief, 0, -5, 2);
        shareOf(thief, 1, 5, 2);
        thief.bend(0);
        shareOf(thief, 0, 5, 2);
        DustVote five = Due.city("B70000000N020N020N020N020N020");
        shareOf(five, 4, 7, 5);
        DustVote falls = Due.city("B00000000N090N390F03F35");
        shareOf(falls, 0, 9, 1);
        shareOf(falls, 1, 15, 1);
        falls.walk(1, 0);
        // Street 3 is knee-deep once, and what it gives to street 2 is swept there.
        shareOf(falls, 1, 1, 1);
        falls.dawn();
        shareOf(falls, 0, 9, 1);
    }

    private static void restsOf(DustVote x, int one, int other, int many, int first) {
        DUE.is("24: rests(" + one + ", " + other + ", 0)", x.rests(one, other, 0), many);
        DUE.is("24: rests(" + one + ", " + other + ", 1)", x.rests(one, other, 1), first);
    }

    private static void rests() {
        int unknown = DustVote.UNKNOWN;
        int outside = DustVote.OUTSIDE;
        DustVote both = Due.city("B50000000N090N090");
        restsOf(both, 0, 1, 2, 1);
        restsOf(both, 1, 0, 2, 1);
        DustVote apart = Due.city("B50000000N090N390");
        restsOf(apart, 0, 1, 1, 10);
        restsOf(apart, 1, 0, 1, 1);
        restsOf(Due.city("B50060000N090N390"), 0, 1, 1, 11);
        restsOf(Due.city("B00000000N090N390"), 0, 1, 1, 0);
        restsOf(Due.city("B40040000N090N390"), 0, 1, 4, 0);
        restsOf(Due.city("B15000000N292N171"), 0, 1, 0, DustVote.NONE);
        DustVote third = Due.city("B50000000N490N090N090");
        restsOf(third, 0, 1, 1, 0);
        restsOf(third, 1, 2, 2, 1);
        DustVote leaner = Due.city("B50000000N093N390");
        restsOf(leaner, 0, 1, 1, 0);
        leaner.bend(0);
        restsOf(leaner, 0, 1, 1, 10);
        restsOf(Due.city("B90000000N010N490"), 0, 1, 1, 0);
        restsOf(Due.city("B90000000N020N490"), 0, 1, 1, 10);
        restsOf(both, 0, 0, outside, outside);
        restsOf(both, 0, 2, unknown, unknown);
        restsOf(both, 2, 0, unknown, unknown);
        restsOf(both, 2, 2, unknown, unknown);
        restsOf(both, -1, 0, unknown, unknown);
        DUE.is("24: rests(0, 1, 2)", both.rests(0, 1, 2), outside);
        DUE.is("24: rests(0, 1, -1)", both.rests(0, 1, -1), outside);
        DUE.is("24: rests(0, 2, 2)", both.rests(0, 2, 2), unknown);
    }

    private static void twiceOf(DustVote x, int street, int n, int tenths, int above, int below) {
        String call = "25: twice(" + street + ", " + n + ", " + tenths;
        DUE.is(call + ", true)", x.twice(street, n, tenths, true), above);
        DUE.is(call + ", false)", x.twice(street, n, tenths, false), below);
    }

    private static void twice() {
        int unknown = DustVote.UNKNOWN;
        int outside = DustVote.OUTSIDE;
        DustVote six = Due.city("B00000000F06");
        twiceOf(six, 0, 1, 5, 1, 2);
        twiceOf(six, 0, 1, 3, 3, 10);
        twiceOf(six, 0, 1, 4, 2, 5);
        twiceOf(six, 0, 1, 0, 0, 1);
        twiceOf(six, 0, 1, 10, 1, 1);
        twiceOf(six, 1, 1, 10, 0, 1);
        twiceOf(six, 0, 2, 1, 1, 1);
        DustVote four = Due.city("B00000000F04");
        twiceOf(four, 0, 2, 5, 3, 4);
        twiceOf(four, 0, 2, 1, 19, 100);
        twiceOf(four, 0, 2, 3, 51, 100);
        twiceOf(Due.city("B90000000F02"), 0, 1, 7, 7, 10);
        twiceOf(Due.city("B90000000F00F00F00F00F00N010"), 0, 6, 7, 0, 1);
        DustVote turns = Due.city("B09000000F09F12");
        // Only a doubled fall makes street 0 give to street 1.
        twiceOf(turns, 1, 1, 5, 1, 2);
        twiceOf(turns, 1, 2, 10, 1, 1);
        turns.hand(1);
        twiceOf(turns, 1, 2, 10, 0, 1);
        DustVote broom = Due.city("B00000000F06N030");
        twiceOf(broom, 0, 1, 10, 0, 1);
        twiceOf(new DustVote(), 7, 6, 10, 0, 1);
        twiceOf(six, 8, 1, 5, unknown, unknown);
        twiceOf(six, -1, 0, 11, unknown, unknown);
        twiceOf(six, 0, 0, 5, outside, outside);
        twiceOf(six, 0, 7, 5, outside, outside);
        twiceOf(six, 0, 1, -1, outside, outside);
        twiceOf(six, 0, 1, 11, outside, outside);
        allSixTwice();
    }

    /** Street 0 alone matters here: what it gives away never comes back to it in six dawns. */
    private static void allSixTwice() {
        DustVote x = Due.city("B00000000F07N090");
        for (int tenths = 0; tenths <= 10; tenths++) {
            long above = 0;
            for (int set = 0; set < 64; set++) {
                int dust = 0;
                for (int i = 0; i < 6; i++) {
                    dust = Math.max(0, dust + ((set >> i & 1) == 1 ? 14 : 7) - 9);
                    dust -= dust >= 10 ? 2 : 0;
                }
                int times = Integer.bitCount(set);
                above += dust >= 10 ? (long) (Math.pow(tenths, times) * Math.pow(10 - tenths, 6 - times)) : 0;
            }
            BigInteger common = BigInteger.valueOf(above).gcd(BigInteger.valueOf(1000000));
            twiceOf(x, 0, 6, tenths, (int) above / common.intValue(), 1000000 / common.intValue());
        }
    }

    private static void seeds() {
        DustVote x = new DustVote();
        DUE.is("26: seed(5)", x.seed(5L), 0);
        DUE.is("26: seed(MIN)", x.seed(Long.MIN_VALUE), 5);
        DUE.is("26: seed(-1)", x.seed(-1L), Long.MIN_VALUE);
        DUE.is("26: seed(0)", x.seed(0L), -1);
        x.years(1);
        DUE.is("27: the seed behind one year of 0", x.seed(5L), AND);
        x.years(3);
        long want = ((5L * TIMES + AND) * TIMES + AND) * TIMES + AND;
        DUE.is("27: the seed behind three years of 5", x.seed(9L), want);
        DUE.is("27: years(0)", x.years(0), DustVote.OUTSIDE);
        DUE.is("27: years(31)", x.years(31), DustVote.OUTSIDE);
        DUE.is("27: years(-1)", x.years(-1), DustVote.OUTSIDE);
        DUE.is("27: the seed, refused", x.seed(0L), 9);
    }

    /** A seed by which just these lots (0 to 31) come, one by one. */
    private static long seedOf(int... lots) {
        BigInteger size = BigInteger.TWO.pow(64);
        BigInteger back = BigInteger.valueOf(TIMES).modInverse(size);
        for (long low = 0; low < 10_000_000L; low++) {
            long first = ((long) lots[0] << 33) + low * 31L;
            long x = first;
            boolean fits = true;
            for (int i = 0; i < lots.length && fits; i++) {
                fits = (x >>> 33) % 32 == lots[i];
                x = x * TIMES + AND;
            }
            if (fits) {
                return BigInteger.valueOf(first - AND).multiply(back).mod(size).longValue();
            }
        }
        throw new IllegalStateException("no seed for these lots");
    }

    private static DustVote busy() {
        DustVote x = Due.city("B90305070N043N251N732N560N410F78F19");
        x.dawn();
        return x;
    }

    private static void lotsOf(int want, int... lots) {
        DustVote x = busy();
        x.seed(seedOf(lots));
        DUE.is("27: years by " + java.util.Arrays.toString(lots), x.years(lots.length), want);
    }

    private static void years() {
        int still = busy().count(4);
        for (int lot = 0; lot <= 9; lot++) {
            DustVote y = busy();
            y.walk(lot / 2, lot % 2);
            lotsOf(still + y.dawn(), lot, 19);
        }
        DustVote given = busy();
        given.vote();
        lotsOf(still + given.dawn(), 10, 31);
        for (int lot = 11; lot <= 18; lot++) {
            DustVote y = busy();
            y.hand(lot - 11);
            lotsOf(y.count(4), lot);
            int first = y.count(4);
            lotsOf(2 * first, lot, lot);
        }
        for (int lot = 19; lot <= 31; lot++) {
            lotsOf(busy().dawn(), lot);
        }
        DustVote last = busy();
        int sum = last.dawn();
        sum += last.dawn();
        last.vote();
        sum += last.count(4);
        lotsOf(sum + last.dawn(), 20, 25, 10, 30);
    }

    private static void nothingChanges() {
        DustVote x = busy();
        x.vote();
        String before = Due.seen(x);
        x.share(0, true);
        x.rests(0, 1, 0);
        x.twice(1, 6, 5, true);
        DUE.is("23 to 25: nothing is changed", Due.seen(x).equals(before) ? 1 : 0, 1);
        x.years(30);
        x.seed(0L);
        DUE.is("27: nothing but the seed is changed", Due.seen(x).equals(before) ? 1 : 0, 1);
    }
}
