/** Promises 20 to 22: heap, unheap, whose. */
public final class HeapsTest {
    private static final Due DUE = new Due("HeapsTest");

    public static void main(String[] args) {
        refusals();
        sixAtMost();
        byOneHeap();
        byMoreHeaps();
        DUE.end();
    }

    private static void refusals() {
        DustVote x = new DustVote();
        int outside = DustVote.OUTSIDE;
        DUE.is("20: heap(-1, 0, 0)", x.heap(-1, 0, 0), outside);
        DUE.is("20: heap(21, 0, 0)", x.heap(21, 0, 0), outside);
        DUE.is("20: heap(0, -1, 0)", x.heap(0, -1, 0), outside);
        DUE.is("20: heap(0, 21, 0)", x.heap(0, 21, 0), outside);
        DUE.is("20: heap(0, 0, -1)", x.heap(0, 0, -1), outside);
        DUE.is("20: heap(0, 0, 10)", x.heap(0, 0, 10), outside);
        DUE.is("20: count(9), refused", x.count(9), 0);
        DUE.is("22: whose(-1)", x.whose(-1), outside);
        DUE.is("22: whose(2)", x.whose(2), outside);
    }

    private static void sixAtMost() {
        DustVote x = new DustVote();
        DUE.is("20: heap(20, 20, 9), that nobody leaves", x.heap(20, 20, 9), 1);
        for (int many = 2; many <= 6; many++) {
            DUE.is("20: heap(20, 11, 9)", x.heap(20, 11, 9), many);
        }
        DUE.is("20: heap(0, 0, 0), full", x.heap(0, 0, 0), DustVote.FULL);
        DUE.is("20: heap(21, 0, 0), full", x.heap(21, 0, 0), DustVote.OUTSIDE);
        DUE.is("20: count(9)", x.count(9), 6);
        DUE.is("22: whose(0), nobody", x.whose(0), 0);
        DUE.is("22: whose(1), nobody", x.whose(1), DustVote.NONE);
        DUE.is("21: unheap()", x.unheap(), 6);
        DUE.is("21: unheap() again", x.unheap(), 0);
        DUE.is("21: count(9)", x.count(9), 0);
        DUE.is("21: whose(0)", x.whose(0), 18);
        DUE.is("21: heap(1, 0, 0) behind it", x.heap(1, 0, 0), 1);
    }

    private static void whoseOf(int many, int first, int... heaps) {
        DustVote x = new DustVote();
        for (int i = 0; i + 2 < heaps.length; i += 3) {
            x.heap(heaps[i], heaps[i + 1], heaps[i + 2]);
        }
        DUE.is("22: whose(0) of " + java.util.Arrays.toString(heaps), x.whose(0), many);
        DUE.is("22: whose(1) of " + java.util.Arrays.toString(heaps), x.whose(1), first);
    }

    private static void byOneHeap() {
        whoseOf(18, 1);
        whoseOf(18, 1, 0, 0, 0);
        whoseOf(1, 4, 12, 8, 0);
        whoseOf(1, 14, 12, 8, 4);
        whoseOf(1, 9, 20, 11, 0);
        whoseOf(1, 19, 20, 11, 9);
        whoseOf(5, 5, 5, 0, 0);
        whoseOf(5, 15, 5, 0, 5);
        whoseOf(9, 11, 1, 0, 1);
        whoseOf(0, DustVote.NONE, 12, 12, 0);
        whoseOf(0, DustVote.NONE, 12, 2, 0);
        whoseOf(0, DustVote.NONE, 12, 8, 3);
        whoseOf(0, DustVote.NONE, 3, 5, 0);
        whoseOf(0, DustVote.NONE, 0, 0, 1);
    }

    private static void byMoreHeaps() {
        whoseOf(5, 5, 5, 0, 0, 3, 0, 0);
        whoseOf(1, 7, 5, 0, 0, 8, 1, 0);
        whoseOf(2, 8, 8, 0, 0, 0, 0, 0);
        whoseOf(1, 18, 9, 1, 8, 2, 0, 2);
        whoseOf(0, DustVote.NONE, 12, 8, 4, 12, 8, 0);
        whoseOf(0, DustVote.NONE, 12, 8, 4, 5, 0, 5);
        whoseOf(0, DustVote.NONE, 5, 0, 5, 5, 0, 5, 5, 0, 5, 5, 0, 5, 5, 0, 5, 5, 1, 4);
    }
}
