/** The edges of promises 1 to 5 and of the terms TEXT, CITY, FAULT: one method for each sentence. */
public final class TextEdgeTest {
    private static final int NONE = DustVote.NONE, STATE = DustVote.STATE;
    private static final String BARE = "B00000000";
    private static final String FIVE_BROOMS = "N010N121N232N343N750";
    private static final String FIVE_FALLS = "F01F12F23F34F79";
    private static final String[] TAILS = {"", "0", "1", "N", "F", "B", "N010", "F00", "00000000", "00000000N010F00"};
    private static final Due DUE = new Due("TextEdgeTest");

    public static void main(String[] args) {
        aNewObjectHasNothing();
        aLetterIs0To255();
        theTextIsOf48LettersAtMost();
        wipeTellsHowLongItWas();
        theTextAloneIsNotTheCity();
        everyLetterAtEveryPlace();
        aTextThatEndsTooSoon();
        noPartsOrMore();
        fiveBroomsAtMost();
        fiveFallsAtMost();
        eachIsCountedForItself();
        itsLengthIsSetAside();
        numberedAsTheyAreTold();
        theLeastAndTheMostOfEachFigure();
        tenTimesBroomsAndFalls();
        madeAnewAllIsAsTold();
        madeAnewWhatWasKeptIsGone();
        heapsAndTheSeedStay();
        fewerThanBefore();
        DUE.end();
    }

    /** The first fault is at the place, whatever comes behind it, and there is no such city. */
    private static void wrongAt(int place, String text) {
        for (String tail : TAILS) {
            if (text.length() + tail.length() <= 48) {
                DustVote x = Due.written(text + tail);
                DUE.is("4: fault() of '" + text + tail + "'", x.fault(), place);
                DUE.is("5: city() of '" + text + tail + "'", x.city(), STATE);
            }
        }
    }

    private static void endsTooSoon(String text) {
        DustVote x = Due.written(text);
        DUE.is("4: fault() of '" + text + "', only not at its end", x.fault(), text.length());
        DUE.is("5: city() of '" + text + "', only not at its end", x.city(), STATE);
    }

    private static void isACity(String text, int want) {
        DustVote x = Due.written(text);
        DUE.is("4: fault() of '" + text + "'", x.fault(), NONE);
        DUE.is("5: city() of '" + text + "'", x.city(), want);
    }

    private static void aNewObjectHasNothing() {
        DustVote x = new DustVote();
        DUE.is("1: no dust", Due.dusts(x), "0 0 0 0 0 0 0 0");
        DUE.is("1: no brooms", x.count(1), 0);
        DUE.is("1: no falls", x.count(2), 0);
        DUE.is("1: a dawn brings nothing", x.dawn(), 0);
        DUE.is("1: the dawn", x.count(3), 1);
        DUE.is("1: the text is empty", x.count(0), 0);
        DUE.is("4: fault() of no text is its length", x.fault(), 0);
    }

    private static void aLetterIs0To255() {
        for (int letter = 0; letter <= 255; letter++) {
            DUE.is("2: write(" + letter + ")", new DustVote().write(letter), 1);
        }
        for (int letter : new int[] {-1, 256}) {
            DUE.is("2: write(" + letter + ")", new DustVote().write(letter), DustVote.OUTSIDE);
        }
    }

    private static void theTextIsOf48LettersAtMost() {
        DustVote x = new DustVote();
        for (int i = 1; i <= 47; i++) {
            x.write(255);
        }
        DUE.is("2: 47 letters", x.count(0), 47);
        DUE.is("2: the 48th", x.write(255), 48);
        DUE.is("2: the 49th", x.write(255), DustVote.FULL);
        DUE.is("2: 48 letters", x.count(0), 48);
        DUE.is("3: wipe() of 48", x.wipe(), 48);
        DUE.is("2: the first, there is room again", x.write(255), 1);
    }

    private static void wipeTellsHowLongItWas() {
        for (int length : new int[] {0, 1, 2, 47, 48}) {
            DustVote x = new DustVote();
            for (int i = 0; i < length; i++) {
                x.write(66);
            }
            DUE.is("3: wipe() of " + length, x.wipe(), length);
            DUE.is("3: wipe() of none", x.wipe(), 0);
            DUE.is("3: then fault() is that of no text", x.fault(), 0);
        }
    }

    /** What is written or wiped changes the text alone, until city() is called. */
    private static void theTextAloneIsNotTheCity() {
        DustVote x = Due.written("B12345678N733F09");
        DUE.is("2: no city yet", Due.dusts(x), "0 0 0 0 0 0 0 0");
        DUE.is("2: no broom yet", x.count(1), 0);
        x.city();
        DUE.is("3: wipe()", x.wipe(), 16);
        DUE.is("3: the city stays", Due.dusts(x), "1 2 3 4 5 6 7 8");
        DUE.is("3: the broom stays", x.broom(0, 0), 7);
        Due.rewrite(x, "B99999999");
        DUE.is("2: the city stays", Due.dusts(x), "1 2 3 4 5 6 7 8");
        x.city();
        DUE.is("5: the text is the city", Due.dusts(x), "9 9 9 9 9 9 9 9");
    }

    private static boolean fits(int place, int letter) {
        switch (place) {
            case 0:
                return letter == 'B';
            case 9:
            case 13:
                return letter == 'N' || letter == 'F';
            case 10:
            case 14:
                return letter >= '0' && letter <= '7';
            case 11:
                return letter >= '1' && letter <= '9';
            case 12:
                return letter >= '0' && letter <= '3';
            default:
                return letter >= '0' && letter <= '9';
        }
    }

    /** All 256 letters at each place of a city of one broom and one fall, as the last and with more behind. */
    private static void everyLetterAtEveryPlace() {
        String model = "B12345678N423F67";
        for (int place = 0; place < model.length(); place++) {
            for (int letter = 0; letter <= 255; letter++) {
                String last = model.substring(0, place) + (char) letter;
                String whole = last + model.substring(place + 1);
                boolean fits = fits(place, letter);
                boolean ends = place == 8 || place == 12 || place == 15;
                String call = "4: fault() with letter " + letter + " at " + place;
                DUE.is(call + ", the last", Due.written(last).fault(), !fits ? place : ends ? NONE : place + 1);
                boolean otherPart = letter != model.charAt(place) && (place == 9 || place == 13);
                if (!fits || !otherPart) {
                    DustVote x = Due.written(whole);
                    DUE.is(call, x.fault(), fits ? NONE : place);
                    DUE.is("5: city() with letter " + letter + " at " + place, x.city(), fits ? 11 : STATE);
                }
            }
        }
        wrongAt(12, BARE + "F09" + "3");
        wrongAt(12, BARE + "N11F");
        wrongAt(11, BARE + "F1N");
    }

    private static void aTextThatEndsTooSoon() {
        String whole = "B12345678N423F67";
        for (int length = 0; length < whole.length(); length++) {
            if (length != 9 && length != 13) {
                endsTooSoon(whole.substring(0, length));
            }
        }
        isACity(whole.substring(0, 9), 0);
        isACity(whole.substring(0, 13), 10);
        isACity(whole, 11);
    }

    private static void noPartsOrMore() {
        isACity(BARE, 0);
        wrongAt(9, BARE + "0");
        wrongAt(9, BARE + "B");
        endsTooSoon("B0000000");
        wrongAt(8, "B0000000N");
        wrongAt(8, "B0000000F");
    }

    private static void fiveBroomsAtMost() {
        isACity(BARE + FIVE_BROOMS.substring(4), 40);
        isACity(BARE + FIVE_BROOMS, 50);
        wrongAt(29, BARE + FIVE_BROOMS + "N");
        wrongAt(29, BARE + FIVE_BROOMS + "N010");
        endsTooSoon(BARE + FIVE_BROOMS.substring(4) + "N");
        endsTooSoon(BARE + FIVE_BROOMS + "F");
    }

    private static void fiveFallsAtMost() {
        isACity(BARE + FIVE_FALLS.substring(3), 4);
        isACity(BARE + FIVE_FALLS, 5);
        wrongAt(24, BARE + FIVE_FALLS + "F");
        wrongAt(24, BARE + FIVE_FALLS + "F00");
        endsTooSoon(BARE + FIVE_FALLS.substring(3) + "F");
        endsTooSoon(BARE + FIVE_FALLS + "N");
    }

    private static void eachIsCountedForItself() {
        isACity(BARE + FIVE_BROOMS + FIVE_FALLS, 55);
        isACity(BARE + FIVE_FALLS + FIVE_BROOMS, 55);
        isACity(BARE + "N010F01N010F01N010F01N010F01N010F01", 55);
        wrongAt(44, BARE + FIVE_BROOMS + FIVE_FALLS + "N");
        wrongAt(44, BARE + FIVE_BROOMS + FIVE_FALLS + "F");
        wrongAt(41, BARE + FIVE_BROOMS + FIVE_FALLS.substring(3) + "N");
        wrongAt(40, BARE + FIVE_FALLS + FIVE_BROOMS.substring(4) + "F");
    }

    /** A text as long as may be is judged by its letters alone. */
    private static void itsLengthIsSetAside() {
        wrongAt(44, BARE + FIVE_BROOMS + FIVE_FALLS + "N010");
        wrongAt(44, BARE + FIVE_BROOMS + FIVE_FALLS + "BBBB");
        wrongAt(0, "A" + BARE.substring(1) + FIVE_BROOMS + FIVE_FALLS + "0000");
        DustVote x = Due.written(BARE + FIVE_BROOMS + FIVE_FALLS + "xyz0");
        DUE.is("4: 48 letters", x.count(0), 48);
        DUE.is("4: fault() of 48 letters", x.fault(), 44);
        x.write(78);
        DUE.is("4: fault() of 48 letters, one refused", x.fault(), 44);
    }

    private static void numberedAsTheyAreTold() {
        DustVote x = Due.city(BARE + "F31N713F20N092F79N450");
        int[][] brooms = {{7, 1, 3}, {0, 9, 2}, {4, 5, 0}};
        for (int broom = 0; broom < 3; broom++) {
            for (int what = 0; what < 3; what++) {
                DUE.is("5: broom(" + broom + ", " + what + ")", x.broom(broom, what), brooms[broom][what]);
            }
        }
        x = Due.city(BARE + "F31N713F20F79");
        x.dawn();
        DUE.is("5: fall 0", Due.dusts(x), "0 0 0 1 0 0 0 0");
        x.dawn();
        DUE.is("5: fall 1", Due.dusts(x), "0 0 0 1 0 0 0 0");
        x.dawn();
        DUE.is("5: fall 2", Due.dusts(x), "0 0 0 1 0 0 0 9");
    }

    private static void theLeastAndTheMostOfEachFigure() {
        DustVote x = Due.city("B09090909N010N793F00F79");
        DUE.is("5: dust 0 and 9", Due.dusts(x), "0 9 0 9 0 9 0 9");
        DUE.is("5: street 0", x.broom(0, 0), 0);
        DUE.is("5: strength 1", x.broom(0, 1), 1);
        DUE.is("5: kind 0", x.broom(0, 2), 0);
        DUE.is("5: street 7", x.broom(1, 0), 7);
        DUE.is("5: strength 9", x.broom(1, 1), 9);
        DUE.is("5: kind 3", x.broom(1, 2), 3);
        DUE.is("5: a fall of 0 in street 0", x.dawn(), 36);
        x.hand(7);
        x.dawn();
        DUE.is("5: a fall of 9 in street 7", x.street(7, 0), 9);
    }

    private static void tenTimesBroomsAndFalls() {
        for (int brooms = 0; brooms <= 5; brooms++) {
            for (int falls = 0; falls <= 5; falls++) {
                String text = BARE + FIVE_FALLS.substring(0, 3 * falls) + FIVE_BROOMS.substring(0, 4 * brooms);
                DustVote x = Due.written(text);
                DUE.is("5: city() of " + text, x.city(), 10 * brooms + falls);
                DUE.is("30: count(1) of " + text, x.count(1), brooms);
                DUE.is("30: count(2) of " + text, x.count(2), falls);
            }
        }
    }

    private static void madeAnewAllIsAsTold() {
        String text = "B12345678N013N131F05";
        DustVote x = Due.city(text);
        String asTold = Due.spent(Due.city(text));
        x.dawn();
        x.vote();
        x.bend(0);
        x.bend(1);
        x.walk(0, 0);
        x.hand(7);
        DUE.is("5: city() once more", x.city(), 21);
        DUE.is("5: the vote is not given", x.count(6), 0);
        DUE.is("5: nobody bent", x.count(7), 0);
        DUE.is("5: the dawn is 0", x.count(3), 0);
        DUE.is("5: the row is empty", x.count(8), 0);
        DUE.is("5: nothing can be undone", x.undo(), STATE);
        DUE.is("5: all is as told", Due.spent(x), asTold);
    }

    private static void madeAnewWhatWasKeptIsGone() {
        DustVote x = Due.city("B12345678N013");
        x.keep(0);
        x.keep(1);
        Due.rewrite(x, "b");
        x.city();
        DUE.is("5: a refused city() keeps slot 0", x.again(0), 0);
        DUE.is("5: a refused city() keeps slot 1", x.again(1), 0);
        Due.rewrite(x, "B12345678N013");
        x.city();
        DUE.is("5: slot 0 is gone", x.again(0), STATE);
        DUE.is("5: slot 1 is gone", x.again(1), STATE);
        x.keep(1);
        DUE.is("5: slot 0 is gone still", x.again(0), STATE);
        DUE.is("5: slot 1 is kept anew", x.again(1), 0);
    }

    private static void heapsAndTheSeedStay() {
        DustVote x = Due.written(BARE);
        for (int i = 0; i < 6; i++) {
            x.heap(12, 8, 4);
        }
        x.seed(Long.MAX_VALUE);
        x.city();
        DUE.is("5: heaps stay", x.count(9), 6);
        DUE.is("5: heaps stay as they were", x.whose(1), 14);
        DUE.is("5: the seed stays", x.seed(0L), Long.MAX_VALUE);
        DUE.is("5: the text stays", x.count(0), 9);
        DUE.is("5: the text stays without fault", x.fault(), NONE);
    }

    private static void fewerThanBefore() {
        DustVote x = Due.city("B99999999" + FIVE_BROOMS + FIVE_FALLS);
        Due.rewrite(x, "B10000000N210F03");
        x.city();
        DUE.is("5: broom(1, 0), there is one only", x.broom(1, 0), DustVote.UNKNOWN);
        DUE.is("5: street(1, 2), nobody is there", x.street(1, 2), 0);
        DUE.is("5: a dawn of one fall", x.dawn(), 4);
        DUE.is("5: a second dawn of one fall", x.dawn(), 7);
        Due.rewrite(x, "B10000000");
        x.city();
        DUE.is("5: a dawn of no fall", x.dawn(), 1);
        DUE.is("5: broom(0, 0), there is none", x.broom(0, 0), DustVote.UNKNOWN);
    }
}
