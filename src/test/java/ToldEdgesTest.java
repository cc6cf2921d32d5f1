/** What is told, and the promises 16 to 21. Without a card in a suit are 3003 hands, with one at least 12501. */
public final class ToldEdgesTest extends Checks {
    private static final int WITHOUT = OF_LENGTH[0];
    private static final int WITH = ALL - OF_LENGTH[0];

    private static void fitsAllCalls() {
        sentence("Told: without calls all hands fit", x -> {
            x.rule(0, 0, 0, 0);
            x.limit(0, 4, 20, 20);
            due("hands of 0", x.hands(0, 0), ALL);
            due("hands of 1", x.hands(1, 0), ALL);
        });
        sentence("Told: the first call of a partner tells, also with 12 calls", unused -> {
            BidLanguage x = twelve();
            x.limit(0, 0, 0, 0);
            makeAll(x, 1, 2, 3, 4, 5, 6, 7, 8, 9, 10, 11, 12);
            due("hands of 0", x.hands(0, 0), WITHOUT);
            due("hands of 1", x.hands(1, 0), ALL);
        });
        sentence("Told: the last call of a partner tells, of 12 calls", unused -> {
            BidLanguage x = twelve();
            x.limit(11, 0, 0, 0);
            makeAll(x, 1, 2, 3, 4, 5, 6, 7, 8, 9, 10, 11, 12);
            due("hands of 0", x.hands(0, 0), ALL);
            due("hands of 1", x.hands(1, 0), WITHOUT);
        });
        sentence("Told: all calls of a partner tell together", x -> {
            x.rule(0, 0, 0, 0);
            x.limit(0, 0, 1, 5);
            x.rule(0, 1, 0, 0);
            x.rule(0, 2, 0, 0);
            x.limit(2, 1, 1, 5);
            makeAll(x, 0, 1, 2);
            due("hands of 0", x.hands(0, 0), ALL - 2 * WITHOUT + 252);
            due("fits", x.fits(0, cards("c4 d3 h43 s4")), 1);
            due("does not fit the first call", x.fits(0, cards("d43 h43 s4")), 0);
            due("does not fit the second call", x.fits(0, cards("c43 h43 s4")), 0);
        });
        sentence("Told: the calls of the other partner do not matter", x -> {
            x.rule(0, 0, 1, 0);
            x.limit(0, 0, 0, 0);
            x.rule(1, 1, 0, 0);
            x.limit(1, 1, 0, 0);
            makeAll(x, 0, 1);
            due("a hand that only fits the call of 0", x.fits(0, cards("d43 h43 s4")), 1);
            due("the same for 1", x.fits(1, cards("d43 h43 s4")), 0);
            due("a hand that only fits the call of 1", x.fits(1, cards("c43 h43 s4")), 1);
            due("the same for 0", x.fits(0, cards("c43 h43 s4")), 0);
        });
        sentence("Told: the hand that the partner has need not fit a call that was made by hand", x -> {
            x.rule(0, 0, 0, 0);
            x.limit(0, 0, 0, 0);
            makeAll(x, 0);
            due("the own hand", x.fits(0, x.hand(0, 0)), 0);
        });
    }

    private static void asItWasThen() {
        sentence("Told: the rule of the hand is found in the state as it was then", x -> {
            x.rule(0, 0, 1, 0);
            x.limit(0, 0, 1, 5);
            x.rule(1, 1, 2, 0);
            x.limit(1, 0, 0, 0);
            makeAll(x, 0, 1);
            due("hands of 0, in the state 0", x.hands(0, 0), WITH);
            due("hands of 1, in the state 1", x.hands(1, 0), WITHOUT);
        });
        sentence("Told: the rule of the hand is found with the last bid as it was then", x -> {
            x.rule(0, 3, 0, 0);
            x.limit(0, 0, 1, 5);
            x.rule(0, 8, 0, 0);
            x.rule(0, 9, 0, 0);
            makeAll(x, 8, 9);
            due("hands of 0, who could have bid 3", x.hands(0, 0), WITHOUT);
            due("hands of 1, who could not", x.hands(1, 0), ALL);
        });
        sentence("Told: a rule with the last bid itself was not open", x -> {
            x.rule(0, 3, 0, 0);
            x.rule(0, 4, 0, 0);
            makeAll(x, 3, 4);
            due("hands of 1", x.hands(1, 0), ALL);
            x.begin();
            makeAll(x, 4);
            due("hands of 0, all of which bid 3", x.hands(0, 0), 0);
        });
        sentence("Told: the rule of the hand is found forced or not, as it was then", x -> {
            x.rule(0, PASS, 0, 0);
            x.limit(0, 0, 1, 5);
            x.rule(0, 0, 0, 1);
            x.rule(0, 1, 0, 0);
            makeAll(x, 0, 1);
            due("hands of 0, who could have passed", x.hands(0, 0), WITHOUT);
            due("hands of 1, who could not", x.hands(1, 0), ALL);
        });
        sentence("Told: a call is by its rule: a hand whose rule comes before does not fit", x -> {
            x.rule(0, 4, 0, 0);
            x.limit(0, 0, 2, 5);
            x.rule(0, 3, 0, 0);
            x.limit(1, 0, 0, 4);
            makeAll(x, 3);
            due("hands", x.hands(0, 0), OF_LENGTH[0] + OF_LENGTH[1]);
            due("with two cards", x.fits(0, cards("c43 d43 h4")), 0);
            due("with one card", x.fits(0, cards("c4 d43 h43")), 1);
        });
        sentence("Told: a pass tells, too", x -> {
            x.rule(0, 4, 0, 0);
            x.limit(0, 0, 1, 5);
            x.rule(0, PASS, 0, 0);
            makeAll(x, PASS);
            due("hands", x.hands(0, 0), WITHOUT);
        });
        sentence("Told: a call that is taken back tells nothing any more", x -> {
            x.rule(0, 0, 0, 0);
            x.limit(0, 0, 0, 0);
            makeAll(x, 0);
            due("hands", x.hands(0, 0), WITHOUT);
            x.back();
            due("hands then", x.hands(0, 0), ALL);
        });
    }

    private static void tellsStuck() {
        sentence("Told: if the auction is stuck at the partner's turn, the hand has no rule there", x -> {
            x.rule(0, 0, 1, 0);
            x.rule(1, 1, 0, 0);
            x.limit(1, 0, 1, 5);
            due("call() of 0", x.call(), 0);
            due("call() of 1", x.call(), NONE);
            due("hands of 1", x.hands(1, 0), WITHOUT);
            due("with a card", x.fits(1, 31), 0);
            due("without", x.fits(1, 31 << 5), 1);
        });
        sentence("Told: that the auction is stuck tells nothing about the other partner", x -> {
            x.rule(0, 0, 0, 0);
            x.limit(0, 1, 5, 5);
            due("call() of 0", x.call(), NONE);
            due("hands of 0", x.hands(0, 0), ALL - 1);
            due("hands of 1", x.hands(1, 0), ALL);
            due("a hand with a rule, of 0", x.fits(0, 31 << 5), 0);
            due("a hand with a rule, of 1", x.fits(1, 31 << 5), 1);
        });
        sentence("Told: stuck without any rule: all hands fit", x -> {
            due("call()", x.call(), NONE);
            due("hands of 0", x.hands(0, 0), ALL);
            due("hands of 1", x.hands(1, 0), ALL);
        });
        sentence("Told: stuck, a rule counts only if it is open there", x -> {
            x.rule(0, 5, 1, 1);
            x.rule(1, PASS, 0, 0);
            x.rule(1, 5, 0, 0);
            x.rule(0, 6, 0, 0);
            due("call() of 0", x.call(), 5);
            due("call() of 1", x.call(), NONE);
            due("hands of 1", x.hands(1, 0), ALL);
        });
        sentence("Told: stuck, the calls of the partner before tell as well", x -> {
            x.rule(0, 0, 0, 0);
            x.limit(0, 0, 1, 5);
            x.rule(0, 1, 1, 0);
            x.rule(1, 2, 0, 0);
            x.limit(2, 1, 1, 5);
            makeAll(x, 0, 1);
            due("call() of 0, without suit 1", x.call(), NONE);
            due("hands of 0, with suit 0 and without suit 1", x.hands(0, 0), WITHOUT - 252);
        });
        sentence("Told: an auction that is not stuck any more tells nothing by it", x -> {
            x.rule(0, 0, 0, 0);
            x.limit(0, 1, 5, 5);
            due("call()", x.call(), NONE);
            x.back();
            due("hands", x.hands(0, 0), ALL);
        });
    }

    private static void handsEdges() {
        sentence("Promise 16: no known cards, up to all cards known", x -> {
            due("none", x.hands(0, 0), ALL);
            due("one", x.hands(0, 1), 11628);
            due("five", x.hands(1, 31), 3003);
            due("15", x.hands(1, ALL_CARDS - 31), 1);
            due("16", x.hands(1, ALL_CARDS - 15), 0);
            due("all", x.hands(0, ALL_CARDS), 0);
        });
        sentence("Promise 16: the hands have no known card, and fit the auction", x -> {
            x.rule(0, 0, 0, 0);
            x.limit(0, 0, 2, 5);
            makeAll(x, 0);
            due("three cards of suit 0 are known", x.hands(0, 7), 455);
            due("four cards of suit 0 are known", x.hands(0, 15), 0);
            due("of the other", x.hands(1, 15), 4368);
        });
        sentence("Promise 16: NO_SUCH if there is no such partner", x -> {
            for (int bad : new int[] {-1, 2, LEAST_INT, GREATEST_INT}) {
                due("partner " + bad, x.hands(bad, 0), NO_SUCH);
            }
        });
        sentence("Promise 16: BAD_VALUE if known is not a set of cards of the pack", x -> {
            due("the highest card", x.hands(0, 1 << 19), 11628);
            for (int bad : new int[] {-1, 1 << 20, 1 | 1 << 20, LEAST_INT, LEAST_INT | 31, GREATEST_INT}) {
                due("known " + bad, x.hands(0, bad), BAD_VALUE);
            }
        });
    }

    private static void dueShown(BidLanguage x, int partner, int known, int... want) {
        for (int what = 0; what < want.length; what++) {
            due("shown(" + partner + ", " + known + ", " + what + ")", x.shown(partner, known, what), want[what]);
        }
    }

    private static void shownEdges() {
        sentence("Promise 17: all hands have lengths 0 to 5, strengths 1 to 19, no and all cards", x -> {
            dueShown(x, 0, 0, 0, 5, 0, 5, 0, 5, 0, 5, 1, 19, 0, ALL_CARDS);
            dueShown(x, 1, 0, 0, 5, 0, 5, 0, 5, 0, 5, 1, 19, 0, ALL_CARDS);
        });
        sentence("Promise 17: of one hand the least and the greatest are the same, and its cards", x -> {
            int only = cards("c0 d43 h1 s3");
            dueShown(x, 0, ALL_CARDS - only, 1, 1, 2, 2, 1, 1, 1, 1, 11, 11, only, only);
        });
        sentence("Promise 17: the lengths in each suit, and the strengths, of the hands that fit", x -> {
            x.rule(0, 0, 0, 0);
            x.limit(0, 0, 1, 4);
            x.limit(0, 1, 0, 1);
            x.limit(0, 2, 1, 3);
            x.limit(0, 3, 0, 2);
            x.limit(0, 4, 6, 9);
            makeAll(x, 0);
            dueShown(x, 0, 0, 1, 4, 0, 1, 1, 3, 0, 2, 6, 9, 0, ALL_CARDS);
            dueShown(x, 1, 0, 0, 5, 0, 5, 0, 5, 0, 5, 1, 19, 0, ALL_CARDS);
        });
        sentence("Promise 17: 10 the cards that all have, 11 the cards that some have", x -> {
            x.rule(0, 0, 0, 0);
            x.limit(0, 0, 4, 4);
            makeAll(x, 0);
            int known = cards("c0 d0123 h0123 s012");
            int some = cards("c1234 d4 h4 s34");
            dueShown(x, 0, known, 4, 4, 0, 1, 0, 1, 0, 1, 13, 14, cards("c1234"), some);
            known = cards("d0123 h01234 s01234");
            dueShown(x, 0, known, 4, 4, 1, 1, 0, 0, 0, 0, 10, 14, cards("d4"), cards("c01234 d4"));
        });
        sentence("Promise 17: NONE if there are no such hands, for each what", x -> {
            dueShown(x, 0, ALL_CARDS - 15, NONE, NONE, NONE, NONE, NONE, NONE, NONE, NONE, NONE, NONE, NONE, NONE);
            x.rule(0, 0, 0, 0);
            x.limit(0, 4, 20, 20);
            makeAll(x, 0);
            dueShown(x, 0, 0, NONE, NONE, NONE, NONE, NONE, NONE, NONE, NONE, NONE, NONE, NONE, NONE);
        });
        sentence("Promise 17: NO_SUCH if there is no such partner", x -> {
            for (int bad : new int[] {-1, 2, LEAST_INT, GREATEST_INT}) {
                due("partner " + bad, x.shown(bad, 0, 0), NO_SUCH);
            }
        });
        sentence("Promise 17: BAD_VALUE if known is not a set of cards of the pack", x -> {
            for (int bad : new int[] {-1, 1 << 20, LEAST_INT, LEAST_INT | 31, GREATEST_INT}) {
                due("known " + bad, x.shown(0, bad, 0), BAD_VALUE);
            }
        });
        sentence("Promise 17: BAD_VALUE if what is out of range", x -> {
            for (int bad : new int[] {-1, 12, LEAST_INT, GREATEST_INT}) {
                due("what " + bad, x.shown(0, 0, bad), BAD_VALUE);
            }
        });
    }

    private static void fitsEdges() {
        sentence("Promise 18: returns 1 or 0", x -> {
            x.rule(0, 0, 0, 0);
            x.limit(0, 0, 5, 5);
            makeAll(x, 0);
            due("the only hand", x.fits(0, 31), 1);
            due("another hand", x.fits(0, 15 | 1 << 5), 0);
        });
        sentence("Promise 18: also a hand of the other partner can fit", x -> {
            due("the cards of 1, for 0", x.fits(0, x.hand(1, 0)), 1);
            due("the cards of 0, for 1", x.fits(1, x.hand(0, 0)), 1);
        });
        sentence("Promise 18: NO_SUCH if there is no such partner", x -> {
            for (int bad : new int[] {-1, 2, LEAST_INT, GREATEST_INT}) {
                due("partner " + bad, x.fits(bad, 31), NO_SUCH);
            }
        });
        sentence("Promise 18: BAD_VALUE if hand is not a set of 5 cards of the pack", x -> {
            for (int bad : NO_HANDS) {
                due("hand " + bad, x.fits(0, bad), BAD_VALUE);
            }
        });
    }

    private static void ruleOfEdges() {
        sentence("Promise 19: the rule for the partner whose turn it is, whichever cards the partners have", x -> {
            x.rule(0, 0, 1, 1);
            x.rule(1, PASS, 0, 0);
            x.rule(1, 1, 0, 0);
            x.limit(2, 0, 1, 5);
            due("rule of 0", x.ruleOf(31 << 5), 0);
            makeAll(x, 0);
            due("rule of 1", x.ruleOf(31), 2);
            due("1 has none, as it is forced", x.ruleOf(31 << 5), NONE);
        });
        sentence("Promise 19: NONE if it has none, and the auction is not stuck by it", x -> {
            due("without rules", x.ruleOf(31), NONE);
            due("the ending", x.state(5), 0);
            due("again", x.ruleOf(31), NONE);
        });
        sentence("Promise 19: BAD_VALUE if hand is not a set of 5 cards of the pack", x -> {
            x.rule(0, 0, 0, 0);
            due("the highest hand", x.ruleOf(31 << 15), 0);
            for (int bad : NO_HANDS) {
                due("hand " + bad, x.ruleOf(bad), BAD_VALUE);
            }
        });
        sentence("Promise 19: NOT_POSSIBLE if the auction is over by a pass", unused -> {
            due("ruleOf", passed().ruleOf(31), NOT_POSSIBLE);
        });
        sentence("Promise 19: NOT_POSSIBLE if the auction is over with 12 calls, not with 11", unused -> {
            BidLanguage x = twelve();
            due("with 12", x.ruleOf(31), NOT_POSSIBLE);
            x.back();
            due("with 11", x.ruleOf(31), 11);
        });
        sentence("Promise 19: NOT_POSSIBLE if the auction is stuck", unused -> {
            due("ruleOf", stuck().ruleOf(cards("c01 d0 h0 s0")), NOT_POSSIBLE);
        });
    }

    private static void reachEdges() {
        sentence("Promise 20: all hands, or none (it says nothing)", x -> {
            x.rule(0, 0, 0, 0);
            x.rule(0, 1, 0, 0);
            due("the first rule", x.reach(0), ALL);
            due("the rule behind it", x.reach(1), 0);
            x.limit(0, 4, 20, 20);
            due("a rule that no hand fits", x.reach(0), 0);
            due("the rule behind it then", x.reach(1), ALL);
        });
        sentence("Promise 20: hands of a rule before are not counted, those of a rule behind are", x -> {
            x.rule(0, 5, 0, 0);
            x.limit(0, 0, 1, 5);
            x.rule(0, 1, 0, 0);
            x.limit(1, 1, 0, 0);
            x.rule(0, PASS, 0, 0);
            due("the first", x.reach(0), WITH);
            due("the second, without the suits 0 and 1", x.reach(1), 252);
            due("the third", x.reach(2), WITHOUT - 252);
        });
        sentence("Promise 20: only rules of its own state count", x -> {
            x.rule(0, 0, 0, 0);
            x.rule(7, 0, 0, 0);
            due("of state 0", x.reach(0), ALL);
            due("of state 7", x.reach(1), ALL);
        });
        sentence("Promise 20: as if there were no last bid and the partner were not forced", x -> {
            x.rule(0, 24, 0, 1);
            x.limit(0, 0, 0, 0);
            x.rule(0, 0, 0, 0);
            x.limit(1, 0, 1, 1);
            x.rule(0, PASS, 0, 0);
            makeAll(x, 24);
            due("a bid that is not greater", x.reach(1), OF_LENGTH[1]);
            due("the last bid", x.reach(0), WITHOUT);
            due("a pass", x.reach(2), WITH - OF_LENGTH[1]);
            due("forced as before", x.state(3), 1);
        });
        sentence("Promise 20: also if the auction is over or stuck", x -> {
            due("over by a pass", passed().reach(1), ALL);
            due("stuck", stuck().reach(1), 4);
            due("over with 12 calls", twelve().reach(0), ALL);
        });
        sentence("Promise 20: NO_SUCH if there is no such rule", x -> {
            due("no rules", x.reach(0), NO_SUCH);
            fill(x, 2);
            for (int bad : new int[] {-1, 2, LEAST_INT, GREATEST_INT}) {
                due("rule " + bad, x.reach(bad), NO_SUCH);
            }
        });
    }

    private static void holesEdges() {
        sentence("Promise 21: state is 0 to 7", x -> {
            x.rule(7, 0, 0, 0);
            due("7", x.holes(7, NONE, 0), 0);
            due("0", x.holes(0, NONE, 0), ALL);
            for (int bad : new int[] {-1, 8, LEAST_INT, GREATEST_INT}) {
                due("state " + bad, x.holes(bad, NONE, 0), BAD_VALUE);
            }
        });
        sentence("Promise 21: last is the last bid (0 to 24), or NONE", x -> {
            x.rule(0, 24, 0, 0);
            due("NONE", x.holes(0, NONE, 0), 0);
            due("0", x.holes(0, 0, 0), 0);
            due("23", x.holes(0, 23, 0), 0);
            due("24", x.holes(0, 24, 0), ALL);
            for (int bad : new int[] {-1, -5, -7, PASS, LEAST_INT, GREATEST_INT}) {
                due("last " + bad, x.holes(0, bad, 0), BAD_VALUE);
            }
        });
        sentence("Promise 21: each last bid goes with each state", x -> {
            for (int state = 0; state < 8; state++) {
                x.rule(state, 10, 0, 0);
                for (int last = 0; last <= 24; last++) {
                    due(last + " in " + state, x.holes(state, last, 1), last < 10 ? 0 : ALL);
                }
            }
        });
        sentence("Promise 21: with no last bid the bid 0 is open, with the last bid 0 it is not", x -> {
            x.rule(0, 0, 0, 0);
            x.limit(0, 0, 1, 5);
            due("NONE", x.holes(0, NONE, 0), WITHOUT);
            due("0", x.holes(0, 0, 0), ALL);
        });
        sentence("Promise 21: force is 1 if the partner is forced, 0 if not", x -> {
            x.rule(0, PASS, 0, 0);
            x.limit(0, 0, 1, 5);
            x.rule(0, 3, 0, 0);
            x.limit(1, 0, 5, 5);
            due("0", x.holes(0, NONE, 0), WITHOUT);
            due("1", x.holes(0, NONE, 1), ALL - 1);
            due("1 behind 3", x.holes(0, 3, 1), ALL);
            due("0 behind 24", x.holes(0, 24, 0), WITHOUT);
            for (int bad : new int[] {-1, 2, LEAST_INT, GREATEST_INT}) {
                due("force " + bad, x.holes(0, NONE, bad), BAD_VALUE);
            }
        });
        sentence("Promise 21: whatever the auction is", unused -> {
            due("of the state 1, not forced", stuck().holes(1, NONE, 0), ALL - 4);
            due("of the state 0, over by a pass", passed().holes(0, 2, 0), 0);
            due("of the state 0 behind 12, over with 12 calls", twelve().holes(0, 12, 1), 0);
            due("of the state 0 behind 13", twelve().holes(0, 13, 1), ALL);
        });
        sentence("Promise 21: without rules all hands have none", x -> {
            due("not forced", x.holes(0, NONE, 0), ALL);
            due("forced", x.holes(7, 24, 1), ALL);
        });
    }

    public static void main(String[] args) {
        fitsAllCalls();
        asItWasThen();
        tellsStuck();
        handsEdges();
        shownEdges();
        fitsEdges();
        ruleOfEdges();
        reachEdges();
        holesEdges();
        finish("ToldEdgesTest");
    }
}
