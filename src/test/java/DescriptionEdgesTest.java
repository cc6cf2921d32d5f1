import java.util.function.Consumer;

/** The sentences on cards, rules and auctions. All five cards of a suit are written as 31, shifted by 5 a suit. */
public final class DescriptionEdgesTest extends Checks {

    // ---- cards

    private static void suitsAndRanks() {
        sentence("Cards: the card c has the suit c / 5 (0 to 3)", x -> {
            x.give(1, 31 << 15);
            x.give(0, 1 << 4 | 1 << 5 | 1 << 9 | 1 << 10 | 1 << 14);
            dueLengths(x, 0, 1, 2, 2, 0);
            x.give(1, 1 << 0 | 1 << 1 | 1 << 2 | 1 << 3 | 1 << 19);
            dueLengths(x, 1, 4, 0, 0, 1);
            x.give(0, 1 << 14 | 1 << 15 | 1 << 16 | 1 << 17 | 1 << 18);
            dueLengths(x, 0, 0, 0, 1, 4);
        });
        sentence("Cards: the card c has the rank c mod 5", x -> {
            x.rule(0, 0, 0, 0);
            int lowest = 1 | 1 << 5 | 1 << 10 | 1 << 15;
            for (int card = 0; card < 20; card++) {
                if (card % 5 != 0) {
                    x.limit(0, 4, card % 5, card % 5);
                    due("a hand with the card " + card, x.ruleOf(lowest | 1 << card), 0);
                }
            }
        });
        sentence("Cards: the rank 4 is the highest one", x -> {
            int others = cards("c1 d1 h1 s1");
            for (int suit = 0; suit < 4; suit++) {
                int lowest = 1 | 1 << 5 | 1 << 10 | 1 << 15;
                int other = others | 1 << 5 * suit + 2;
                due("rank 4 of suit " + suit, x.tricks(4, lowest | 1 << 5 * suit + 4, other), 1);
                due("rank 3 of suit " + suit, x.tricks(4, lowest | 1 << 5 * suit + 3, other), 0);
            }
        });
    }

    private static void dueLengths(BidLanguage x, int partner, int... want) {
        for (int suit = 0; suit < 4; suit++) {
            due("length of " + partner + " in " + suit, x.hand(partner, 1 + suit), want[suit]);
        }
    }

    private static void handsAsSets() {
        sentence("Cards: the pack has 20 cards, a hand is a set of 5 cards", x -> {
            due("rule", x.rule(0, 0, 0, 0), 0);
            due("all hands", x.limit(0, 4, 0, 20), ALL);
            due("the lowest hand", x.fits(0, 31), 1);
            due("the highest hand", x.fits(0, 31 << 15), 1);
            due("the card behind the highest", x.fits(0, 31 << 16), BAD_VALUE);
            due("four cards", x.fits(0, 15), BAD_VALUE);
            due("six cards", x.fits(0, 63), BAD_VALUE);
        });
        sentence("Cards: the strength is the sum of the ranks (0 to 20): no hand has 0 or 20", x -> {
            x.rule(0, 0, 0, 0);
            int[][] counts = {{0, 0}, {1, 4}, {2, 4 + 4 * 6}, {18, 4 + 4 * 6}, {19, 4}, {20, 0}};
            for (int[] count : counts) {
                due("strength " + count[0], x.limit(0, 4, count[0], count[0]), count[1]);
            }
            int sum = 0;
            for (int strength = 0; strength <= 20; strength++) {
                sum += x.limit(0, 4, strength, strength);
            }
            due("all strengths", sum, ALL);
        });
        sentence("Cards: the length in a suit is the number of its cards", x -> {
            x.rule(0, 0, 0, 0);
            for (int suit = 0; suit < 4; suit++) {
                for (int length = 0; length <= 5; length++) {
                    due("length " + length, x.limit(0, suit, length, length), OF_LENGTH[length]);
                }
                x.limit(0, suit, 0, 5);
            }
        });
    }

    private static void partners() {
        sentence("Cards: the hands of the partners have no card in common", x -> {
            for (int seed : new int[] {0, 1, 12345, 32767, 32768, 65535}) {
                int first = x.draw(seed);
                due("cards in common", first & x.hand(1, 0), 0);
                due("cards of both", Integer.bitCount(first | x.hand(1, 0)), 10);
            }
        });
        sentence("Cards: at first the partner 0 has the cards 0 to 4", x -> due("hand", x.hand(0, 0), 31));
        sentence("Cards: at first the partner 1 has the cards 5 to 9", x -> due("hand", x.hand(1, 0), 31 << 5));
    }

    // ---- rules

    private static void callsAndRules() {
        sentence("Rules: a bid has (bid) / 5 + 1 tricks and the strain (bid) mod 5", x -> {
            String[] texts = {"1c", "1d", "1h", "1s", "1n", "2c", "3h", "4s", "4n", "5c", "5s", "5n"};
            int[] bids = {0, 1, 2, 3, 4, 5, 12, 18, 19, 20, 23, 24};
            for (int i = 0; i < bids.length; i++) {
                write(x, "0:" + texts[i] + ">0");
                due("load of " + texts[i], x.load(), i);
                due("call of " + texts[i], x.part(i, 1), bids[i]);
            }
        });
        sentence("Rules: a call is a bid (0 to 24), or PASS (25)", x -> {
            due("the call 24", x.rule(0, 24, 0, 0), 0);
            due("the call 25", x.rule(0, 25, 0, 0), 1);
            due("the call 26", x.rule(0, 26, 0, 0), BAD_VALUE);
            due("make(25)", x.make(25), 1);
            due("the ending", x.state(5), 1);
        });
        sentence("Rules: there are up to 24 rules", x -> {
            fill(x, 24);
            due("rules", x.state(6), 24);
            due("rule 25", x.rule(7, 24, 0, 0), TOO_MANY);
            due("rules", x.state(6), 24);
        });
        sentence("Rules: the rules are in order", x -> {
            x.rule(0, 9, 0, 0);
            x.rule(0, 3, 0, 0);
            x.rule(0, 6, 0, 0);
            dueCalls(x, 9, 3, 6);
            due("the first one is asked first", x.ruleOf(31), 0);
            x.move(0, 2);
            due("the call of the first one then", x.part(x.ruleOf(31), 1), 3);
        });
        sentence("Rules: at first a rule has 0 to 20, and 0 to 5 for all suits", x -> {
            x.rule(3, 7, 4, 1);
            dueParts(x, 0, 3, 7, 4, 1, 0, 5, 0, 5, 0, 5, 0, 5, 0, 20);
            due("all hands fit", x.reach(0), ALL);
        });
        sentence("Rules: no two rules of one state have the same call", x -> {
            due("the call", x.rule(5, 8, 0, 0), 0);
            due("the call with another next state", x.rule(5, 8, 1, 0), NOT_POSSIBLE);
            due("the call that forces", x.rule(5, 8, 0, 1), NOT_POSSIBLE);
            due("the call of another state", x.rule(4, 8, 0, 0), 1);
            due("another call", x.rule(5, 9, 0, 0), 2);
        });
    }

    private static void ranges() {
        sentence("Rules: a hand fits if its strength is in the range: both ends belong to it", x -> {
            x.rule(0, 0, 0, 0);
            x.limit(0, 4, 5, 12);
            due("strength 4", x.ruleOf(cards("c0 d0 h0 s40")), NONE);
            due("strength 5", x.ruleOf(cards("c10 d0 h0 s4")), 0);
            due("strength 12", x.ruleOf(cards("c40 d4 h40")), 0);
            due("strength 13", x.ruleOf(cards("c41 d4 h40")), NONE);
        });
        sentence("Rules: a hand fits if its lengths are in the ranges: both ends belong to them", x -> {
            x.rule(0, 0, 0, 0);
            for (int suit = 0; suit < 4; suit++) {
                x.limit(0, suit, 2, 3);
                for (int length = 0; length <= 5; length++) {
                    int inSuit = (1 << length) - 1 << 5 * suit;
                    int others = (1 << 5 - length) - 1 << 5 * ((suit + 1) % 4);
                    due("length " + length + " in " + suit, x.ruleOf(inSuit | others),
                        length == 2 || length == 3 ? 0 : NONE);
                }
                x.limit(0, suit, 0, 5);
            }
        });
        sentence("Rules: a hand fits only if its strength and all its lengths are in the ranges", x -> {
            x.rule(0, 0, 0, 0);
            x.limit(0, 0, 1, 1);
            x.limit(0, 1, 1, 1);
            x.limit(0, 2, 1, 1);
            x.limit(0, 3, 2, 2);
            x.limit(0, 4, 10, 10);
            due("all are", x.ruleOf(cards("c4 d3 h2 s10")), 0);
            due("the strength is too small", x.ruleOf(cards("c3 d3 h2 s10")), NONE);
            due("the strength is too great", x.ruleOf(cards("c4 d4 h2 s10")), NONE);
            due("the lengths in 0 and 1 are not", x.ruleOf(cards("c43 h2 s10")), NONE);
            due("the lengths in 2 and 3 are not", x.ruleOf(cards("c4 d1 h32 s0")), NONE);
            due("the lengths in 0 and 3 are not", x.ruleOf(cards("d3 h3 s310")), NONE);
        });
    }

    // ---- auctions

    private static void begins() {
        sentence("Auctions: the partners call by turns, from the partner 0 on", x -> {
            x.rule(0, 0, 0, 0);
            x.limit(0, 0, 5, 5);
            x.rule(0, 1, 0, 0);
            x.limit(1, 1, 5, 5);
            x.rule(0, 2, 0, 0);
            x.limit(2, 0, 5, 5);
            due("the turn at first", x.state(4), 0);
            due("call of 0, with suit 0", x.call(), 0);
            due("the turn then", x.state(4), 1);
            due("call of 1, with suit 1", x.call(), 1);
            due("the turn then", x.state(4), 0);
            due("call of 0, with suit 0", x.call(), 2);
        });
        sentence("Auctions: the state is 0 at first", x -> due("state", x.state(1), 0));
        sentence("Auctions: there is no last bid at first", x -> due("last bid", x.state(2), NONE));
        sentence("Auctions: the partner is not forced at first", x -> {
            due("forced", x.state(3), 0);
            x.rule(0, PASS, 0, 0);
            due("a pass as the first call", x.make(PASS), 1);
        });
    }

    private static void openRules() {
        sentence("Auctions: a rule of another state is not open", x -> {
            x.rule(1, 5, 2, 0);
            x.rule(0, 5, 1, 0);
            x.rule(1, 6, 4, 0);
            x.rule(0, 6, 5, 0);
            due("the call of the hand", x.call(), 5);
            due("the state is that of the second rule", x.state(1), 1);
            due("the call of the hand then", x.call(), 6);
            due("the state is that of the third rule", x.state(1), 4);
            due("a call of the state 0", x.make(7), NOT_POSSIBLE);
        });
        sentence("Auctions: a bid is open only if it is greater than the last bid", x -> {
            x.rule(0, 4, 0, 0);
            x.rule(0, 5, 0, 0);
            x.rule(0, 6, 0, 0);
            makeAll(x, 5);
            due("the bid before the last bid", x.make(4), NOT_POSSIBLE);
            due("the last bid", x.make(5), NOT_POSSIBLE);
            due("the rule of a hand", x.ruleOf(31), 2);
            due("the bid behind the last bid", x.make(6), 2);
        });
        sentence("Auctions: behind the bid 24 no bid is open, but PASS is", x -> {
            x.rule(0, 24, 0, 0);
            x.rule(0, PASS, 0, 0);
            makeAll(x, 24);
            due("24 again", x.make(24), NOT_POSSIBLE);
            due("the call of the hand", x.call(), PASS);
        });
        sentence("Auctions: any bid is open if there is no last bid", x -> {
            x.rule(0, 0, 0, 0);
            x.rule(0, 24, 0, 0);
            makeAll(x, 0);
            x.begin();
            makeAll(x, 24);
            x.begin();
            due("the call of the hand", x.call(), 0);
        });
        sentence("Auctions: PASS is open only if the partner is not forced", x -> {
            x.rule(0, 0, 1, 1);
            x.rule(1, PASS, 0, 0);
            x.rule(1, 7, 1, 0);
            makeAll(x, 0);
            due("a pass when forced", x.make(PASS), NOT_POSSIBLE);
            due("the rule of a hand when forced", x.ruleOf(31), 2);
            due("a bid when forced", x.make(7), 2);
            due("the rule of a hand when not forced", x.ruleOf(31), 1);
            due("a pass when not forced", x.make(PASS), 3);
        });
        sentence("Auctions: the rule of a hand is the first open rule that the hand fits", x -> {
            x.rule(1, 1, 0, 0);
            x.rule(0, 2, 0, 0);
            x.limit(1, 0, 0, 0);
            x.rule(0, 9, 0, 0);
            x.rule(0, 3, 0, 0);
            due("not a rule of another state, nor one that it does not fit", x.ruleOf(31), 2);
            due("the first of those that it fits", x.ruleOf(31 << 5), 1);
            makeAll(x, 2);
            due("not a bid that is no greater one", x.ruleOf(31 << 5), 2);
        });
    }

    private static void callsByRules() {
        sentence("Auctions: a call is added, and the other partner has the turn", x -> {
            x.rule(0, 0, 0, 0);
            x.rule(0, 1, 0, 0);
            makeAll(x, 0);
            dueAuction("after one call", x, 1, 0, 0, 0, 1, 0);
            makeSecond(x, 1);
            dueAuction("after two calls", x, 2, 0, 1, 0, 0, 0);
        });
        sentence("Auctions: with a PASS it is over; the state, the last bid and forced stay as they are", x -> {
            x.rule(0, 7, 3, 0);
            x.rule(3, PASS, 5, 1);
            makeAll(x, 7, PASS);
            dueAuction("after the pass", x, 2, 3, 7, 0, 0, 1);
            due("call() then", x.call(), NOT_POSSIBLE);
        });
        sentence("Auctions: with a PASS as the first call there is still no last bid", x -> {
            x.rule(0, PASS, 5, 1);
            due("call()", x.call(), PASS);
            dueAuction("after the pass", x, 1, 0, NONE, 0, 1, 1);
        });
        sentence("Auctions: a bid becomes the last bid, its rule's next state the state", x -> {
            x.rule(0, 0, 7, 0);
            x.rule(7, 24, 7, 0);
            makeAll(x, 0);
            dueAuction("after 0", x, 1, 7, 0, 0, 1, 0);
            makeSecond(x, 24);
            dueAuction("after 24", x, 2, 7, 24, 0, 0, 0);
        });
        sentence("Auctions: the other partner is forced if the rule forces, and not if it does not", x -> {
            x.rule(0, 0, 0, 1);
            x.rule(0, 1, 0, 1);
            x.rule(0, 2, 0, 0);
            makeAll(x, 0);
            due("forced", x.state(3), 1);
            makeSecond(x, 1);
            due("forced again", x.state(3), 1);
            due("make(2)", x.make(2), 3);
            due("not forced any more", x.state(3), 0);
        });
    }

    private static void makeSecond(BidLanguage x, int call) {
        due("make(" + call + ") as the second one", x.make(call), 2);
    }

    private static void ends() {
        sentence("Auctions: with 11 calls it goes on", unused -> {
            BidLanguage x = twelve();
            x.back();
            dueAuction("with 11", x, 11, 0, 11, 0, 1, 0);
            due("ruleOf", x.ruleOf(31), 11);
            due("call()", x.call(), 12);
        });
        sentence("Auctions: with 12 calls it is over", unused -> {
            BidLanguage x = twelve();
            dueAuction("with 12", x, 12, 0, 12, 0, 0, 1);
            due("call()", x.call(), NOT_POSSIBLE);
            due("make(13)", x.make(13), NOT_POSSIBLE);
            due("ruleOf", x.ruleOf(31), NOT_POSSIBLE);
        });
        sentence("Auctions: the twelfth call may be a PASS", x -> {
            for (int bid = 0; bid < 11; bid++) {
                x.rule(0, bid, 0, 0);
            }
            x.rule(0, PASS, 0, 0);
            makeAll(x, 0, 1, 2, 3, 4, 5, 6, 7, 8, 9, 10, PASS);
            dueAuction("with 12", x, 12, 0, 10, 0, 0, 1);
        });
        sentence("Auctions: it is stuck, and over without a call, if the hand has no rule", x -> {
            x.rule(0, 3, 1, 0);
            x.rule(1, 9, 0, 0);
            x.limit(1, 0, 1, 5);
            due("call() of 0", x.call(), 3);
            due("call() of 1", x.call(), NONE);
            dueAuction("when it is stuck", x, 1, 1, 3, 0, 1, 2);
            due("made", x.made(1, 0), NONE);
            due("call() then", x.call(), NOT_POSSIBLE);
            due("make(9) then", x.make(9), NOT_POSSIBLE);
        });
        sentence("Auctions: it is stuck only when the partner is to call by its hand", x -> {
            x.rule(0, 3, 1, 0);
            makeAll(x, 3);
            due("ruleOf", x.ruleOf(x.hand(1, 0)), NONE);
            due("the ending", x.state(5), 0);
            due("make of no open rule", x.make(9), NOT_POSSIBLE);
            due("the ending", x.state(5), 0);
        });
    }

    private static void anew() {
        dueAnewBy("a rule is added", x -> due("rule", x.rule(7, 20, 7, 1), x.state(6) - 1));
        dueAnewBy("a rule is added by load()", x -> {
            write(x, "7:5c>7!");
            due("load", x.load(), x.state(6) - 1);
        });
        dueAnewBy("a rule is changed", x -> due("limit", x.limit(0, 0, 5, 5), 1));
        dueAnewBy("a rule is changed, with nothing different", x -> due("limit", x.limit(0, 4, 0, 20), ALL));
        dueAnewBy("a rule is removed", x -> due("remove", x.remove(1), x.state(6)));
        dueAnewBy("a rule is moved", x -> due("move", x.move(0, 1), x.part(1, 1)));
        dueAnewBy("a rule is moved, with nothing different", x -> due("move", x.move(1, 1), x.part(1, 1)));
        dueAnewBy("a hand is given to 0", x -> due("give", x.give(0, 31 << 10), 31));
        dueAnewBy("a hand is given to 1", x -> due("give", x.give(1, 31 << 10), 31 << 5));
        dueAnewBy("a hand is given to 0, with nothing different", x -> due("give", x.give(0, 31), 31));
        dueAnewBy("a hand is given to 1, with nothing different", x -> due("give", x.give(1, 31 << 5), 31 << 5));
        dueAnewBy("hands are drawn", x -> due("draw", x.draw(77), 311425));
        sentence("Auctions: it begins anew if hands are drawn, with nothing different", x -> {
            x.rule(0, 0, 0, 1);
            due("draw", x.draw(77), 311425);
            makeAll(x, 0);
            due("draw", x.draw(77), 311425);
            dueAnew("the same draw", x);
        });
    }

    /** In each way in which an auction can stand: going on, stuck, over by a pass, over with 12 calls. */
    private static void dueAnewBy(String what, Consumer<BidLanguage> change) {
        sentence("Auctions: it begins anew if " + what, unused -> {
            BidLanguage going = stuck();
            going.back();
            for (BidLanguage x : new BidLanguage[] {going, stuck(), passed(), twelve()}) {
                change.accept(x);
                dueAnew(what, x);
                due("hands of 0 then", x.hands(0, 0), ALL);
                due("hands of 1 then", x.hands(1, 0), ALL);
            }
        });
    }

    public static void main(String[] args) {
        suitsAndRanks();
        handsAsSets();
        partners();
        callsAndRules();
        ranges();
        begins();
        openRules();
        callsByRules();
        ends();
        anew();
        finish("DescriptionEdgesTest");
    }
}
