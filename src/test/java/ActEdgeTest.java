import java.util.function.Consumer;

/** The edges of promises 6 to 13 and of the terms of acts and their row: one method for each sentence. */
public final class ActEdgeTest {
    private static final int UNKNOWN = DustVote.UNKNOWN, STATE = DustVote.STATE;
    private static final Due DUE = new Due("ActEdgeTest");

    public static void main(String[] args) {
        streetsAre0To7();
        broomsInAStreetAsBits();
        broomsAreThoseThatAreTold();
        walkedToTheLeftAndRight();
        theVoteIsGivenOrTaken();
        aBroomThatDidNotIsBentForGood();
        howManyBent();
        aStreetThatHasDustHasNone();
        byHandOfTheMost();
        fourteenActsAtMost();
        theFirstOneIsForgottenOfEachKind();
        theRowComesRound();
        theLastOneCanBeUndone();
        whatIsNoActIsNotInTheRow();
        undoneToTheBeginning();
        DUE.end();
    }

    private static void streetsAre0To7() {
        DustVote x = Due.city("B12345678");
        for (int street = 0; street <= 7; street++) {
            DUE.is("6: street(" + street + ", 0)", x.street(street, 0), street + 1);
            DUE.is("6: street(" + street + ", 1)", x.street(street, 1), 0);
            DUE.is("6: street(" + street + ", 2)", x.street(street, 2), 0);
        }
        DUE.is("6: street(-1, 0)", x.street(-1, 0), UNKNOWN);
        DUE.is("6: street(8, 0)", x.street(8, 0), UNKNOWN);
    }

    private static void broomsInAStreetAsBits() {
        DustVote all = Due.city("B00000000N710N721N732N743N750");
        DUE.is("6: street(7, 2), all five", all.street(7, 2), 31);
        DUE.is("6: street(0, 2), nobody", all.street(0, 2), 0);
        for (int broom = 0; broom < 5; broom++) {
            all.walk(broom, 1);
            DUE.is("6: street(0, 2), who walked", all.street(0, 2), (2 << broom) - 1);
            DUE.is("6: street(7, 2), the others", all.street(7, 2), 31 - ((2 << broom) - 1));
        }
        DustVote apart = Due.city("B00000000N010N110N210N310N410");
        for (int street = 0; street < 8; street++) {
            DUE.is("6: street(" + street + ", 2)", apart.street(street, 2), street < 5 ? 1 << street : 0);
        }
    }

    private static void broomsAreThoseThatAreTold() {
        StringBuilder text = new StringBuilder("B00000000");
        for (int brooms = 0; brooms <= 5; brooms++) {
            DustVote x = Due.city(text.toString());
            for (int broom = 0; broom <= 5; broom++) {
                boolean there = broom < brooms;
                String call = " of " + brooms + " brooms";
                DUE.is("7: broom(" + broom + ", 0)" + call, x.broom(broom, 0), there ? broom : UNKNOWN);
                DUE.is("7: broom(" + broom + ", 1)" + call, x.broom(broom, 1), there ? broom + 5 : UNKNOWN);
                DUE.is("7: broom(" + broom + ", 4)" + call, x.broom(broom, 4), there ? 0 : UNKNOWN);
                DUE.is("9: walk(" + broom + ", 1)" + call, x.walk(broom, 1), there ? broom + 1 : UNKNOWN);
                DUE.is("11: bend(" + broom + ")" + call, x.bend(broom), there ? broom + 1 : UNKNOWN);
                DUE.is("17: best(" + broom + ", 1, 0)" + call, x.best(broom, 1, 0), there ? 0 : UNKNOWN);
                DUE.is("23: share(" + broom + ", true)" + call, x.share(broom, true), there ? 0 : UNKNOWN);
                DUE.is("24: rests(" + broom + ", 0, 0)" + call, x.rests(broom, 0, 0),
                    !there ? UNKNOWN : broom == 0 ? DustVote.OUTSIDE : 1);
                DUE.is("24: rests(0, " + broom + ", 1)" + call, x.rests(0, broom, 1),
                    !there ? UNKNOWN : broom == 0 ? DustVote.OUTSIDE : 0);
            }
            text.append('N').append(brooms).append(brooms + 5).append('0');
        }
    }

    private static void walkedToTheLeftAndRight() {
        for (int from = 0; from < 8; from++) {
            DustVote x = Due.city("B00000000N410N" + from + "10");
            int[] right = {1, 2, 3, 4, 5, 6, 7, 0};
            int[] left = {7, 0, 1, 2, 3, 4, 5, 6};
            int at = from;
            for (int step = 0; step < 8; step++) {
                at = right[at];
                DUE.is("9: walk(1, 1)", x.walk(1, 1), at);
                DUE.is("9: broom(1, 0)", x.broom(1, 0), at);
            }
            DUE.is("9: once round to the right", x.broom(1, 0), from);
            for (int step = 0; step < 8; step++) {
                at = left[at];
                DUE.is("9: walk(1, 0)", x.walk(1, 0), at);
            }
            DUE.is("9: once round to the left", x.broom(1, 0), from);
            DUE.is("9: the other one stays", x.broom(0, 0), 4);
            DUE.is("9: no dawn", x.count(3), 0);
        }
    }

    private static void theVoteIsGivenOrTaken() {
        DustVote x = new DustVote();
        for (int time = 0; time < 5; time++) {
            DUE.is("10: vote()", x.vote(), 1);
            DUE.is("30: count(6)", x.count(6), 1);
            DUE.is("10: vote()", x.vote(), 0);
            DUE.is("30: count(6)", x.count(6), 0);
        }
        DUE.is("10: each is an act", x.count(8), 10);
    }

    private static void aBroomThatDidNotIsBentForGood() {
        DustVote x = Due.city("B00000000N013N011");
        x.bend(0);
        x.dawn();
        x.walk(0, 1);
        x.vote();
        x.vote();
        DUE.is("11: bent still", x.broom(0, 3), 1);
        DUE.is("11: works still", x.broom(0, 4), 0);
        DUE.is("11: bend(0), it did", x.bend(0), STATE);
        DUE.is("11: the other one did not", x.broom(1, 3), 0);
        x.vote();
        DUE.is("11: bend(0), it did, with the vote", x.bend(0), STATE);
        DUE.is("11: bend(1), with the vote", x.bend(1), 2);
        x.undo();
        DUE.is("11: bend(1), undone, once more", x.bend(1), 2);
    }

    private static void howManyBent() {
        DustVote x = Due.city("B00000000N010N011N012N013N010");
        int[] order = {4, 0, 2, 3, 1};
        int[] bits = {16, 17, 21, 29, 31};
        for (int i = 0; i < 5; i++) {
            DUE.is("11: bend(" + order[i] + ")", x.bend(order[i]), i + 1);
            DUE.is("30: count(7)", x.count(7), bits[i]);
        }
        for (int broom = 0; broom < 5; broom++) {
            DUE.is("11: bend(" + broom + "), it did", x.bend(broom), STATE);
        }
        DUE.is("11: bend(5)", x.bend(5), UNKNOWN);
        DUE.is("11: five acts", x.count(8), 5);
    }

    private static void aStreetThatHasDustHasNone() {
        for (int street = 0; street < 8; street++) {
            DustVote x = Due.city("B11111111");
            DUE.is("12: hand(" + street + ") of 1", x.hand(street), 1);
            DUE.is("12: street(" + street + ", 0)", x.street(street, 0), 0);
            DUE.is("12: no other one", x.count(4), 7);
            DUE.is("12: hand(" + street + ") of 0", x.hand(street), STATE);
            DUE.is("12: one act", x.count(8), 1);
        }
        DustVote x = Due.city("B00000000");
        DUE.is("12: hand(0) of 0", x.hand(0), STATE);
        DUE.is("12: hand(7) of 0", x.hand(7), STATE);
    }

    private static void byHandOfTheMost() {
        DustVote x = Due.city("B00000000F09F09F09F09F09");
        for (int dawn = 0; dawn < 20; dawn++) {
            x.dawn();
            x.hand(1);
            x.hand(7);
        }
        DUE.is("12: hand(0) of 97", x.hand(0), 97);
        DUE.is("12: hand(0) then", x.hand(0), STATE);
        DUE.is("12: nothing is left", x.count(4), 0);
        x.undo();
        DUE.is("13: hand undone", x.street(0, 0), 97);
        DUE.is("13: knee-deep again", x.count(5), 1);
    }

    private static void fourteenActsAtMost() {
        int[] acts = {1, 2, 13, 14, 15, 16, 27, 28, 29, 30};
        for (int many : acts) {
            DustVote x = Due.city("B00000000N010");
            for (int i = 0; i < many; i++) {
                x.walk(0, 1);
            }
            int kept = many < 14 ? many : 14;
            DUE.is("30: count(8) behind " + many, x.count(8), kept);
            for (int left = kept - 1; left >= 0; left--) {
                DUE.is("13: undo() of " + many, x.undo(), left);
            }
            DUE.is("13: broom(0, 0), behind those that are forgotten", x.broom(0, 0), (many - kept) % 8);
            DUE.is("13: undo(), none is left", x.undo(), STATE);
            DUE.is("13: broom(0, 0), nothing is changed", x.broom(0, 0), (many - kept) % 8);
        }
    }

    /** An act of each kind is the first of fourteen, then the first of fifteen. */
    private static void theFirstOneIsForgottenOfEachKind() {
        firstOf("dawn", x -> x.dawn());
        firstOf("walk", x -> x.walk(0, 0));
        firstOf("vote", x -> x.vote());
        firstOf("bend", x -> x.bend(1));
        firstOf("hand", x -> x.hand(5));
    }

    private static DustVote ready() {
        return Due.city("B98765432N023N141F09");
    }

    private static void firstOf(String kind, Consumer<DustVote> act) {
        DustVote once = ready();
        act.accept(once);
        for (int more = 13; more <= 14; more++) {
            DustVote x = ready();
            act.accept(x);
            DUE.is("8 to 12: " + kind + " is an act", x.count(8), 1);
            String first = dustAndBrooms(x);
            for (int i = 0; i < more; i++) {
                x.walk(1, 1);
            }
            for (int i = 0; i < 14; i++) {
                x.undo();
            }
            DUE.is("13: no more of " + kind, x.undo(), STATE);
            String want = more == 14 ? first : dustAndBrooms(ready());
            DUE.is("13: " + kind + " and " + more + " more, 14 undone", dustAndBrooms(x), want);
        }
        DUE.is("13: " + kind + " changes something", dustAndBrooms(once).equals(dustAndBrooms(ready())) ? 1 : 0, 0);
    }

    private static String dustAndBrooms(DustVote x) {
        return Due.dusts(x) + ", " + x.broom(0, 0) + x.broom(1, 0) + ", " + x.count(3) + x.count(6) + x.count(7);
    }

    /** Undone ones make room: three forward, one back, past the end of fourteen several times. */
    private static void theRowComesRound() {
        DustVote x = Due.city("B00000000N010");
        int at = 0;
        int row = 0;
        for (int round = 0; round < 20; round++) {
            for (int i = 0; i < 3; i++) {
                at = (at + 1) % 8;
                row = Math.min(14, row + 1);
                x.walk(0, 1);
            }
            at = (at + 7) % 8;
            row--;
            DUE.is("13: undo() in round " + round, x.undo(), row);
            DUE.is("13: broom(0, 0) in round " + round, x.broom(0, 0), at);
        }
        for (int left = 12; left >= 0; left--) {
            at = (at + 7) % 8;
            DUE.is("13: undo() at the end", x.undo(), left);
            DUE.is("13: broom(0, 0) at the end", x.broom(0, 0), at);
        }
        DUE.is("13: undo(), none", x.undo(), STATE);
    }

    private static void theLastOneCanBeUndone() {
        DustVote x = Due.city("B98000007N023N141F09F71");
        DUE.is("13: undo(), none", x.undo(), STATE);
        x.dawn();
        DUE.is("13: undo() of a dawn", x.undo(), 0);
        DUE.is("13: the dust is back", Due.dusts(x), "9 8 0 0 0 0 0 7");
        DUE.is("13: the dawn is back", x.count(3), 0);
        x.dawn();
        DUE.is("13: the same fall comes down", Due.dusts(x), "16 5 4 0 0 0 0 8");
        x.walk(0, 0);
        DUE.is("13: undo() of a walk", x.undo(), 1);
        DUE.is("13: it is back", x.broom(0, 0), 0);
        x.vote();
        DUE.is("13: undo() of a vote given", x.undo(), 1);
        DUE.is("13: it is not given", x.count(6), 0);
        x.vote();
        x.vote();
        DUE.is("13: undo() of a vote taken", x.undo(), 2);
        DUE.is("13: it is given", x.count(6), 1);
        x.bend(1);
        DUE.is("13: undo() of a bend", x.undo(), 2);
        DUE.is("13: it is not bent", x.count(7), 0);
        x.hand(7);
        DUE.is("13: undo() of a hand", x.undo(), 2);
        DUE.is("13: the dust is back again", x.street(7, 0), 8);
    }

    private static void whatIsNoActIsNotInTheRow() {
        DustVote x = Due.city("B98765432N023N141F09");
        x.vote();
        x.write(66);
        x.wipe();
        x.fault();
        x.city();
        x.dust(0, 30);
        x.knees(30);
        x.knee(0);
        x.best(0, 9, 0);
        x.bends(9);
        x.judge(4, 200L);
        x.heap(1, 1, 1);
        x.unheap();
        x.whose(0);
        x.share(0, true);
        x.rests(0, 1, 0);
        x.twice(0, 6, 5, true);
        x.seed(3L);
        x.years(30);
        x.keep(0);
        x.count(8);
        DUE.is("13: one act", x.count(8), 1);
        DUE.is("13: undo() of it", x.undo(), 0);
        DUE.is("13: the vote", x.count(6), 0);
        DUE.is("13: what is no act stays: the slot", x.again(0), 0);
        DUE.is("13: the vote was kept", x.count(6), 1);
    }

    private static void undoneToTheBeginning() {
        DustVote x = Due.city("B98765432N023N141N252F09F15");
        String first = dustAndBrooms(x);
        x.dawn();
        x.walk(1, 1);
        x.vote();
        x.bend(0);
        x.hand(2);
        x.vote();
        x.bend(1);
        x.walk(0, 0);
        x.dawn();
        x.dawn();
        x.hand(0);
        x.vote();
        x.bend(2);
        x.dawn();
        DUE.is("30: count(8)", x.count(8), 14);
        for (int left = 13; left >= 0; left--) {
            DUE.is("13: undo()", x.undo(), left);
        }
        DUE.is("13: as at first", dustAndBrooms(x), first);
    }
}
