/** Promises 1 to 7: a new object, write, wipe, fault, city, street, broom. */
public final class CityTest {
    private static final Due DUE = new Due("CityTest");
    private static final String MOST = "B12345678N010N121N232N343N450F01F12F23F34F45";

    public static void main(String[] args) {
        newObject();
        letters();
        faults();
        cities();
        streets();
        brooms();
        DUE.end();
    }

    private static void newObject() {
        DustVote x = new DustVote();
        for (int what = 0; what <= 9; what++) {
            DUE.is("1: count(" + what + ")", x.count(what), 0);
        }
        for (int street = 0; street < 8; street++) {
            DUE.is("1: street(" + street + ", 0)", x.street(street, 0), 0);
            DUE.is("1: street(" + street + ", 2)", x.street(street, 2), 0);
        }
        DUE.is("1: broom(0, 0)", x.broom(0, 0), DustVote.UNKNOWN);
        DUE.is("1: seed(0)", x.seed(0L), 0);
        DUE.is("1: undo()", x.undo(), DustVote.STATE);
        DUE.is("1: again(1)", x.again(1), DustVote.STATE);
    }

    private static void letters() {
        DustVote x = new DustVote();
        DUE.is("2: write(-1)", x.write(-1), DustVote.OUTSIDE);
        DUE.is("2: write(256)", x.write(256), DustVote.OUTSIDE);
        DUE.is("2: count(0)", x.count(0), 0);
        DUE.is("2: write(0)", x.write(0), 1);
        DUE.is("2: write(255)", x.write(255), 2);
        for (int length = 3; length <= 48; length++) {
            DUE.is("2: write(66)", x.write(66), length);
        }
        DUE.is("2: write(66), full", x.write(66), DustVote.FULL);
        DUE.is("2: write(256), full", x.write(256), DustVote.OUTSIDE);
        DUE.is("2: count(0), full", x.count(0), 48);
        DUE.is("3: wipe()", x.wipe(), 48);
        DUE.is("3: wipe() again", x.wipe(), 0);
        DUE.is("3: count(0)", x.count(0), 0);
        DUE.is("3: write(66) behind it", x.write(66), 1);
    }

    private static void faultOf(String text, int want) {
        DustVote x = Due.written(text);
        DUE.is("4: fault() of '" + text + "'", x.fault(), want);
        DUE.is("5: city() of '" + text + "'", Math.min(0, x.city()), want == DustVote.NONE ? 0 : DustVote.STATE);
    }

    private static void faults() {
        int none = DustVote.NONE;
        String[] texts = {"", "b", "B", "B1", "Bx", "B/", "B:", "B0000000", "B0000000N", "B00000000", "BB"};
        int[] places = {0, 0, 1, 2, 1, 1, 1, 8, 8, none, 1};
        for (int i = 0; i < texts.length; i++) {
            faultOf(texts[i], places[i]);
        }
        String[] parts = {"X", "n", "0", "N", "N8", "N7", "N70", "N71", "N714", "N71/", "N713", "N790", "N7:0",
            "F", "F8", "F7", "F7x", "F7:", "F70", "F09", "NF", "FN", "F09F", "N713N", "F09F0", "F09N713F12", "F09 ", "B"};
        int[] behind = {9, 9, 9, 10, 10, 11, 11, 12, 12, 12, none, none, 11,
            10, 10, 11, 11, 11, none, none, 10, 10, 13, 14, 14, none, 12, 9};
        for (int i = 0; i < parts.length; i++) {
            faultOf("B00000000" + parts[i], behind[i]);
        }
        faultOf(MOST, none);
        faultOf(MOST + "N", 44);
        faultOf(MOST + "F", 44);
        faultOf(MOST + "N010", 44);
        faultOf("B00000000N010N010N010N010N010F00N", 32);
        faultOf("B00000000F00F00F00F00F00N010F", 28);
        faultOf("B00000000N010N010N010N010N010F00", none);
        DustVote again = Due.written(MOST);
        for (int length = 0; length < 44; length++) {
            Due.rewrite(again, MOST.substring(0, length));
            boolean ends = length == 9 || length > 9 && length <= 29 && length % 4 == 1 || length > 29 && length % 3 == 2;
            DUE.is("4: fault(), cut at " + length + ", wiped letters are gone", again.fault(), ends ? none : length);
            again = length % 8 == 0 ? Due.written(MOST) : again;
        }
    }

    private static void cities() {
        DUE.is("5: city() of the most", Due.written(MOST).city(), 55);
        DUE.is("5: city() of the least", Due.written("B00000000").city(), 0);
        DUE.is("5: city() of a fall", Due.written("B00000000F77").city(), 1);
        DustVote x = Due.city("B12345678N013N131F05");
        x.vote();
        x.bend(0);
        x.dawn();
        x.walk(1, 1);
        x.keep(0);
        x.keep(1);
        x.heap(3, 1, 2);
        x.seed(77L);
        Due.rewrite(x, "B0000");
        String before = Due.seen(x);
        DUE.is("5: city() with a fault", x.city(), DustVote.STATE);
        DUE.is("5: refused, changes nothing", Due.seen(x).equals(before) ? 1 : 0, 1);
        DUE.is("5: refused, kept stays", x.again(0), 1);
        Due.rewrite(x, "B90000001N222");
        DUE.is("5: city() made anew", x.city(), 10);
        int[] want = {13, 1, 0, 0, 10, 0, 0, 0, 0, 1};
        for (int what = 0; what <= 9; what++) {
            DUE.is("5: count(" + what + ") made anew", x.count(what), want[what]);
        }
        DUE.is("5: street(0, 0)", x.street(0, 0), 9);
        DUE.is("5: street(7, 0)", x.street(7, 0), 1);
        DUE.is("5: broom(0, 0)", x.broom(0, 0), 2);
        DUE.is("5: broom(0, 3)", x.broom(0, 3), 0);
        DUE.is("5: again(0), gone", x.again(0), DustVote.STATE);
        DUE.is("5: again(1), gone", x.again(1), DustVote.STATE);
        DUE.is("5: undo(), none", x.undo(), DustVote.STATE);
        DUE.is("5: the seed stays", x.seed(0L), 77);
        x.dawn();
        x.vote();
        DUE.is("5: the text stays", x.city(), 10);
        DUE.is("5: count(8), the row is empty", x.count(8), 0);
        DUE.is("5: undo(), the row is empty", x.undo(), DustVote.STATE);
        DUE.is("5: dust as told again", x.count(4), 10);
    }

    private static void streets() {
        DustVote x = Due.city("B90123456N010N720N733F03");
        DUE.is("6: street(7, 0)", x.street(7, 0), 6);
        DUE.is("6: street(0, 1)", x.street(0, 1), 0);
        DUE.is("6: street(0, 2)", x.street(0, 2), 1);
        DUE.is("6: street(7, 2)", x.street(7, 2), 6);
        DUE.is("6: street(1, 2)", x.street(1, 2), 0);
        DUE.is("6: street(-1, 0)", x.street(-1, 0), DustVote.UNKNOWN);
        DUE.is("6: street(8, 9)", x.street(8, 9), DustVote.UNKNOWN);
        DUE.is("6: street(0, -1)", x.street(0, -1), DustVote.OUTSIDE);
        DUE.is("6: street(0, 3)", x.street(0, 3), DustVote.OUTSIDE);
        DustVote deep = Due.city("B90000000F03");
        deep.dawn();
        DUE.is("6: street(0, 0) of 10", deep.street(0, 0), 10);
        DUE.is("6: street(0, 1) of 10", deep.street(0, 1), 1);
        DustVote nine = Due.city("B90000000F02");
        nine.dawn();
        DUE.is("6: street(0, 0) of 9", nine.street(0, 0), 9);
        DUE.is("6: street(0, 1) of 9", nine.street(0, 1), 0);
    }

    private static void brooms() {
        DustVote x = Due.city("B00000000N090N181N272N363N451");
        int[][] want = {{0, 9, 0, 0, 0}, {1, 8, 1, 0, 1}, {2, 7, 2, 0, 2}, {3, 6, 3, 0, 3}, {4, 5, 1, 0, 1}};
        for (int broom = 0; broom < 5; broom++) {
            for (int what = 0; what <= 4; what++) {
                DUE.is("7: broom(" + broom + ", " + what + ")", x.broom(broom, what), want[broom][what]);
            }
        }
        DUE.is("7: broom(5, 0)", x.broom(5, 0), DustVote.UNKNOWN);
        DUE.is("7: broom(-1, 9)", x.broom(-1, 9), DustVote.UNKNOWN);
        DUE.is("7: broom(0, 5)", x.broom(0, 5), DustVote.OUTSIDE);
        DUE.is("7: broom(0, -1)", x.broom(0, -1), DustVote.OUTSIDE);
        for (int broom = 0; broom < 4; broom++) {
            x.bend(broom);
        }
        int[] bentWork = {0, 0, 2, 0, 1};
        for (int broom = 0; broom < 5; broom++) {
            DUE.is("7: broom(" + broom + ", 3) bent", x.broom(broom, 3), broom < 4 ? 1 : 0);
            DUE.is("7: broom(" + broom + ", 4) bent", x.broom(broom, 4), bentWork[broom]);
        }
        DustVote given = Due.city("B00000000N090N181N272N363N451");
        given.vote();
        int[] givenWork = {0, 0, 2, 0, 0};
        for (int broom = 0; broom < 5; broom++) {
            DUE.is("7: broom(" + broom + ", 4) by the vote", given.broom(broom, 4), givenWork[broom]);
        }
        given.vote();
        DUE.is("7: broom(3, 4) the vote taken", given.broom(3, 4), 3);
    }
}
