/** Promises 7 to 9: the hands of the partners. */
public final class HandsEdgesTest extends Checks {

    private static void giveEdges() {
        sentence("Promise 7: partner is 0 or 1, NO_SUCH if there is no such partner", x -> {
            due("0", x.give(0, 31 << 10), 31);
            due("1", x.give(1, 31 << 15), 31 << 5);
            for (int bad : new int[] {-1, 2, LEAST_INT, GREATEST_INT}) {
                due("partner " + bad, x.give(bad, 31), NO_SUCH);
            }
        });
        sentence("Promise 7: returns the previous hand", x -> {
            due("the first one of 0", x.give(0, 31 << 10), 31);
            due("the second one of 0", x.give(0, 31), 31 << 10);
            due("the first one of 1", x.give(1, 31 << 15), 31 << 5);
            due("the second one of 1", x.give(1, 31 << 5), 31 << 15);
            due("the third one of 0", x.give(0, 31), 31);
            due("hand of 0", x.hand(0, 0), 31);
            due("hand of 1", x.hand(1, 0), 31 << 5);
        });
        sentence("Promise 7: the lowest and the highest card of the pack can be given", x -> {
            int both = 1 | 1 << 19 | cards("h012");
            due("give", x.give(0, both), 31);
            due("hand", x.hand(0, 0), both);
        });
        sentence("Promise 7: BAD_VALUE if hand is not a set of 5 cards of the pack", x -> {
            for (int hand : NO_HANDS) {
                due("hand " + hand + " of 0", x.give(0, hand), BAD_VALUE);
                due("hand " + hand + " of 1", x.give(1, hand), BAD_VALUE);
            }
        });
        sentence("Promise 7: NOT_POSSIBLE if the other partner has one of them, one or all five", x -> {
            due("one of the cards of 1", x.give(0, 15 | 1 << 5), NOT_POSSIBLE);
            due("one of the cards of 1", x.give(0, 15 | 1 << 9), NOT_POSSIBLE);
            due("all cards of 1", x.give(0, 31 << 5), NOT_POSSIBLE);
            due("one of the cards of 0", x.give(1, 15 << 5 | 1), NOT_POSSIBLE);
            due("one of the cards of 0", x.give(1, 15 << 5 | 1 << 4), NOT_POSSIBLE);
            due("all cards of 0", x.give(1, 31), NOT_POSSIBLE);
        });
        sentence("Promise 7: the own cards are no obstacle", x -> {
            due("the same hand", x.give(1, 31 << 5), 31 << 5);
            due("a hand with four of its cards", x.give(1, 15 << 5 | 1 << 10), 31 << 5);
        });
        sentence("Promise 7: the cards that the other partner had before are free", x -> {
            due("give to 1", x.give(1, 31 << 10), 31 << 5);
            due("give to 0", x.give(0, 31 << 5), 31);
            due("give to 1", x.give(1, 31), 31 << 10);
            due("hand of 0", x.hand(0, 0), 31 << 5);
            due("hand of 1", x.hand(1, 0), 31);
        });
    }

    private static void drawEdges() {
        sentence("Promise 8: seed is 0 to 65535, BAD_VALUE if it is out of range", x -> {
            due("0", x.draw(0), 268321);
            due("65535", x.draw(65535), drawn(65535)[0]);
            for (int bad : new int[] {-1, 65536, LEAST_INT, GREATEST_INT}) {
                due("seed " + bad, x.draw(bad), BAD_VALUE);
            }
        });
        // z is 11242, 25967, 14714, 54495, 23818, 3663, 54938, 53695, 58922, 57135; of the cards that are left it
        // takes the numbers 2, 13, 8, 10, 10, and then 3, 2, 5, 2, 1.
        sentence("Promise 8: z is taken mod 65536 for each draw, and mod 20 - k for its card", x -> {
            due("draw", x.draw(65535), 1 << 2 | 1 << 14 | 1 << 9 | 1 << 12 | 1 << 13);
            due("hand of 1", x.hand(1, 0), 1 << 4 | 1 << 3 | 1 << 8 | 1 << 5 | 1 << 1);
        });
        sentence("Promise 8: the draws 0 to 4 are the hand of the partner 0, 5 to 9 that of the partner 1", x -> {
            for (int seed : new int[] {0, 1, 2, 77, 4095, 32767, 32768, 65534, 65535}) {
                int[] hands = drawn(seed);
                due("draw(" + seed + ")", x.draw(seed), hands[0]);
                due("hand of 0", x.hand(0, 0), hands[0]);
                due("hand of 1", x.hand(1, 0), hands[1]);
            }
        });
        sentence("Promise 8: the cards are drawn from the whole pack, whatever hands there were", x -> {
            x.give(0, 31 << 15);
            x.give(1, 31 << 10);
            due("draw(0)", x.draw(0), 268321);
            due("hand of 1", x.hand(1, 0), 165008);
            due("draw(0) again", x.draw(0), 268321);
            due("hand of 1 again", x.hand(1, 0), 165008);
        });
        sentence("Promise 8: each draw begins with its own seed", x -> {
            x.draw(65535);
            due("draw(77)", x.draw(77), 311425);
            due("hand of 1", x.hand(1, 0), 2836);
        });
    }

    private static void handEdges() {
        sentence("Promise 9: 0 the hand, 1 to 4 its lengths, 5 its strength, of both partners", x -> {
            int first = cards("c41 d0 s32");
            int second = cards("c0 d12 h43");
            x.give(1, 31 << 10);
            due("give to 0", x.give(0, first), 31);
            due("give to 1", x.give(1, second), 31 << 10);
            int[][] want = {{first, 2, 1, 0, 2, 10}, {second, 1, 2, 2, 0, 10}};
            for (int partner = 0; partner < 2; partner++) {
                for (int what = 0; what < 6; what++) {
                    due("hand(" + partner + ", " + what + ")", x.hand(partner, what), want[partner][what]);
                }
            }
        });
        sentence("Promise 9: lengths are 0 to 5", x -> {
            for (int suit = 0; suit < 4; suit++) {
                x.give(1, suit == 0 ? 31 << 5 : 31);
                x.give(0, 31 << 5 * suit);
                for (int other = 0; other < 4; other++) {
                    due("length in " + other, x.hand(0, 1 + other), other == suit ? 5 : 0);
                }
                x.give(0, suit == 3 ? 31 << 10 : 31 << 15);
            }
        });
        sentence("Promise 9: the least strength of a hand is 1, the greatest 19", x -> {
            x.give(1, cards("h1 s1234"));
            due("give the least", x.give(0, cards("c01 d0 h0 s0")), 31);
            due("the least", x.hand(0, 5), 1);
            x.give(1, cards("h12 s123"));
            x.give(0, cards("c4 d43 h4 s4"));
            due("the greatest", x.hand(0, 5), 19);
        });
        sentence("Promise 9: BAD_VALUE if what is out of range", x -> {
            due("5", x.hand(1, 5), 10);
            for (int bad : new int[] {-1, 6, LEAST_INT, GREATEST_INT}) {
                due("what " + bad, x.hand(0, bad), BAD_VALUE);
            }
        });
        sentence("Promise 9: NO_SUCH if there is no such partner", x -> {
            for (int bad : new int[] {-1, 2, LEAST_INT, GREATEST_INT}) {
                due("partner " + bad, x.hand(bad, 0), NO_SUCH);
            }
        });
    }

    public static void main(String[] args) {
        giveEdges();
        drawEdges();
        handEdges();
        finish("HandsEdgesTest");
    }
}
