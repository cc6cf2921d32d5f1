/** Tricks, and the promises 22 to 24. In the hands that shall win nothing no suit has its rank 4. */
public final class ContractsEdgesTest extends Checks {
    private static final int NO_TRUMPS = 4;

    private static void dueTricks(int strain, String one, String other, int want) {
        BidLanguage x = new BidLanguage();
        due("tricks " + strain + " " + one + " / " + other, x.tricks(strain, cards(one), cards(other)), want);
        due("tricks " + strain + " " + other + " / " + one, x.tricks(strain, cards(other), cards(one)), want);
    }

    // ---- tricks

    private static void winners() {
        sentence("Tricks: winners are counted from the rank 4 downward: none without it", x -> {
            dueTricks(NO_TRUMPS, "c3210 d0", "d123 h0 s0", 0);
            dueTricks(NO_TRUMPS, "c0123 d0", "d3 h0123", 0);
        });
        sentence("Tricks: winners end at the first gap, behind one card", x -> {
            dueTricks(NO_TRUMPS, "c420 d0 h0", "c1 d1 h1 s01", 1);
            dueTricks(NO_TRUMPS, "c4210 d0", "d1 h01 s01", 1);
        });
        sentence("Tricks: winners end at the first gap, behind two, three and four cards", x -> {
            dueTricks(NO_TRUMPS, "c4310 d0", "d1 h01 s01", 2);
            dueTricks(NO_TRUMPS, "c4320 d0", "d1 h01 s01", 3);
            dueTricks(NO_TRUMPS, "c4321 d0", "d1 h01 s01", 4);
            dueTricks(NO_TRUMPS, "c43210", "d01 h01 s0", 5);
        });
        sentence("Tricks: winners are the cards of both hands", x -> {
            dueTricks(NO_TRUMPS, "c42 d0 h0 s0", "c30 d1 h1 s1", 2);
            dueTricks(NO_TRUMPS, "c410 d0 h0", "c32 d1 h1 s1", 3);
        });
        sentence("Tricks: winners are no more than the greater one of both lengths", x -> {
            dueTricks(NO_TRUMPS, "c4 d0 h01 s0", "c3 d1 h2 s12", 1);
            dueTricks(NO_TRUMPS, "c42 d0 h0 s0", "c3 d12 h1 s1", 2);
            dueTricks(NO_TRUMPS, "c42 d0 h0 s0", "c31 d1 h1 s1", 2);
            dueTricks(NO_TRUMPS, "c420 d0 h0", "c31 d1 h1 s0", 3);
            dueTricks(NO_TRUMPS, "c4310 d0", "c2 d1 h01 s0", 4);
        });
        sentence("Tricks: winners are as many as the greater length, if it is as great", x -> {
            dueTricks(NO_TRUMPS, "c43 d0 h0 s0", "c10 d1 h1 s1", 2);
            dueTricks(NO_TRUMPS, "c432 d0 h0", "c0 d1 h1 s01", 3);
        });
        sentence("Tricks: winners of each of the four suits", x -> {
            dueTricks(NO_TRUMPS, "c4 d0 h0 s10", "c0 d1 h1 s32", 1);
            dueTricks(NO_TRUMPS, "c1 d4 h0 s10", "c0 d1 h1 s32", 1);
            dueTricks(NO_TRUMPS, "c1 d0 h4 s10", "c0 d1 h1 s32", 1);
            dueTricks(NO_TRUMPS, "c1 d0 h0 s40", "c0 d1 h1 s12", 1);
        });
    }

    private static void noTrumps() {
        sentence("Tricks: with no trumps the sum of the winners in all suits", x -> {
            dueTricks(NO_TRUMPS, "c43 d43 h0", "c0 d1 h1 s01", 4);
            dueTricks(NO_TRUMPS, "c4 d4 h4 s43", "c0 d0 h0 s01", 5);
        });
        sentence("Tricks: with no trumps no more than 5", x -> {
            dueTricks(NO_TRUMPS, "c43 d43 h4", "s4 c0 d0 h0 s0", 5);
            dueTricks(NO_TRUMPS, "c43 d43 h4", "c21 d21 h3", 5);
            dueTricks(NO_TRUMPS, "c01234", "d01234", 5);
        });
        sentence("Tricks: with no trumps there are no ruffs", x -> {
            dueTricks(NO_TRUMPS, "c01 d012", "c2 h012 s0", 0);
            dueTricks(NO_TRUMPS, "d0123 h0", "h123 s01", 0);
        });
    }

    private static void ruffs() {
        sentence("Tricks: one ruff for each other suit and each hand", x -> {
            dueTricks(0, "c01 d012", "c2 h012 s0", 3);
            dueTricks(1, "c01 d012", "c2 h012 s0", 2);
            dueTricks(2, "c01 d012", "c2 h012 s0", 1);
            dueTricks(3, "c01 d012", "c2 h012 s0", 1);
            dueTricks(0, "c012 d01", "c3 d23 h01", 1);
        });
        sentence("Tricks: a ruff in each of the suits, with each of the others as trumps", x -> {
            dueTricks(1, "d0 h01 s01", "c01 d1 h2 s2", 1);
            dueTricks(0, "c0 h01 s01", "c1 d01 h2 s2", 1);
            dueTricks(3, "c01 d01 s0", "c2 d2 h01 s1", 1);
            dueTricks(2, "c01 d01 h0", "c2 d2 h1 s01", 1);
        });
        sentence("Tricks: one trump is enough for a ruff, and many make no more", x -> {
            dueTricks(0, "c0 h01 s01", "c1 d01 h2 s2", 1);
            dueTricks(0, "c012 h0 s0", "c3 d01 h2 s2", 1);
            dueTricks(0, "c012 h0 s0", "d01 h12 s2", 1);
        });
        sentence("Tricks: no ruff without a trump", x -> {
            dueTricks(0, "d01 h012", "c0 d2 s012", 1);
            dueTricks(0, "d0 h01 s01", "d123 h2 s2", 0);
            dueTricks(1, "c01 h01 s0", "d012 h2 s1", 1);
        });
        sentence("Tricks: no ruff if the hand has a card of the suit", x -> {
            dueTricks(0, "c01 d0 h0 s0", "c2 d1 h1 s12", 0);
            dueTricks(0, "c01 h0 s01", "c2 d0 h1 s23", 1);
        });
        sentence("Tricks: no ruff if the other hand has no card of the suit either", x -> {
            dueTricks(0, "c012 d01", "c3 d2 h012", 1);
            dueTricks(0, "c01 d012", "c23 d3 h01", 1);
            dueTricks(0, "c01 h012", "c2 h3 s012", 1);
            dueTricks(0, "c012 d01", "c3 d23 s01", 1);
        });
        sentence("Tricks: no ruff in the trump suit itself", x -> {
            dueTricks(0, "c012 d0 h0", "d1 h1 s012", 1);
            dueTricks(0, "c0123 d0", "d123 h01", 1);
        });
        sentence("Tricks: winners and ruffs together", x -> {
            dueTricks(0, "c43 h012", "c21 d012", 4);
            dueTricks(0, "c432 d01", "c10 h012", 5);
            dueTricks(3, "c4 s0123", "d012 h01", 3);
        });
        sentence("Tricks: winners and ruffs are no more than 5", x -> {
            dueTricks(0, "c432 d40", "c10 h401", 5);
            dueTricks(0, "c43 d34", "c21 h34", BAD_VALUE);
            dueTricks(0, "c4321 h0", "c0 d0123", 5);
            dueTricks(1, "d43 c01 h0", "d21 h4 s34", 5);
        });
    }

    private static void tricksEdges() {
        sentence("Promise 22: strain is 0 to 4", x -> {
            due("0", x.tricks(0, 31, 31 << 5), 5);
            due("4", x.tricks(4, 31, 31 << 5), 5);
            for (int bad : new int[] {-1, 5, LEAST_INT, GREATEST_INT}) {
                due("strain " + bad, x.tricks(bad, 31, 31 << 5), BAD_VALUE);
            }
        });
        sentence("Promise 22: BAD_VALUE if one is not a set of 5 cards of the pack", x -> {
            for (int bad : NO_HANDS) {
                due("one " + bad, x.tricks(0, bad, 31 << 10), BAD_VALUE);
            }
        });
        sentence("Promise 22: BAD_VALUE if other is not a set of 5 cards of the pack", x -> {
            for (int bad : NO_HANDS) {
                due("other " + bad, x.tricks(0, 31 << 10, bad), BAD_VALUE);
            }
        });
        sentence("Promise 22: BAD_VALUE if both have a card in common, one or all", x -> {
            due("the lowest card", x.tricks(4, 31, 1 | 15 << 5), BAD_VALUE);
            due("a card that is the last of one, the first of the other", x.tricks(4, 31, 31 << 4), BAD_VALUE);
            due("the highest card", x.tricks(4, 31 << 15, 15 | 1 << 19), BAD_VALUE);
            due("all cards", x.tricks(4, 31, 31), BAD_VALUE);
            due("none", x.tricks(4, 31, 31 << 5), 5);
        });
        sentence("Promise 22: the hands need not be those of the partners", x -> {
            due("hands of one suit each", x.tricks(4, 31 << 10, 31 << 15), 5);
            due("the hands the other way round", x.tricks(4, 31 << 5, 31), 5);
        });
    }

    // ---- expected

    private static void expectedEdges() {
        sentence("Promise 23: strain is 0 to 4, BAD_VALUE if it is out of range", x -> {
            due("0", x.expected(0, 0), 5 * 3003);
            due("4", x.expected(1, 4), 5 * 3003);
            for (int bad : new int[] {-1, 5, LEAST_INT, GREATEST_INT}) {
                due("strain " + bad, x.expected(0, bad), BAD_VALUE);
            }
        });
        sentence("Promise 23: NO_SUCH if there is no such partner", x -> {
            for (int bad : new int[] {-1, 2, LEAST_INT, GREATEST_INT}) {
                due("partner " + bad, x.expected(bad, 0), NO_SUCH);
            }
        });
        sentence("Promise 23: the hands of the other partner, who shows a hand; not those of the own one", x -> {
            x.rule(0, 0, 1, 0);
            x.limit(0, 2, 5, 5);
            makeAll(x, 0);
            due("1 knows the hand of 0", x.expected(1, 4), 5);
            due("0 knows nothing of 1", x.expected(0, 4), 5 * 3003);
        });
        sentence("Promise 23: the own cards are known cards", x -> {
            x.rule(0, 0, 1, 0);
            x.limit(0, 0, 4, 5);
            makeAll(x, 0);
            due("five and 75 hands, as 1 has none of suit 0", x.expected(1, 4), 5 * (1 + 50));
            due("give", x.give(0, 31 << 15), 31);
            due("give", x.give(1, 1 | 15 << 5), 31 << 5);
            makeAll(x, 0);
            due("1 has the lowest card of suit 0", x.hands(0, x.hand(1, 0)), 11);
            due("four winners in suit 0, and one at least in suit 1", x.expected(1, 0), sumByHand(x));
        });
        sentence("Promise 23: the sum is 0 if there are no such hands", x -> {
            x.rule(0, 0, 1, 0);
            x.limit(0, 4, 20, 20);
            makeAll(x, 0);
            for (int strain = 0; strain < 5; strain++) {
                due("strain " + strain, x.expected(1, strain), 0);
            }
        });
        sentence("Promise 23: the sum is 0 if no hand makes a trick", unused -> {
            BidLanguage x = withoutTricks();
            due("hands", x.hands(0, x.hand(1, 0)), 4);
            for (int strain = 0; strain < 5; strain++) {
                due("strain " + strain, x.expected(1, strain), 0);
            }
        });
        sentence("Promise 23: also if the other partner is stuck", x -> {
            x.rule(0, 0, 0, 0);
            x.limit(0, 2, 0, 4);
            x.rule(0, PASS, 0, 0);
            x.limit(1, 2, 0, 4);
            x.give(0, 31 << 10);
            due("call() of 0", x.call(), NONE);
            due("1 knows the hand of 0", x.expected(1, 0), 5);
        });
    }

    /** The four lowest of suit 1 and the lowest of suit 0, with the four others of suit 0 and one card more. */
    private static long sumByHand(BidLanguage x) {
        long sum = 0;
        for (int card = 9; card < 20; card++) {
            sum += x.tricks(0, 1 | 15 << 5, 30 | 1 << card);
        }
        return sum;
    }

    /** Alike in their lengths, so that there are no ruffs, and each suit misses its rank 4 or 3. */
    private static BidLanguage withoutTricks() {
        BidLanguage x = new BidLanguage();
        x.rule(0, 0, 1, 0);
        x.limit(0, 0, 2, 2);
        x.limit(0, 1, 1, 1);
        x.limit(0, 2, 1, 1);
        x.limit(0, 3, 1, 1);
        x.limit(0, 4, 1, 2);
        due("give", x.give(0, cards("c01 h012")), 31);
        due("give", x.give(1, cards("c32 d3 h3 s3")), 31 << 5);
        makeAll(x, 0);
        return x;
    }

    // ---- contract

    /** Partner 1 with this hand, partner 0 with lengths and strengths that a call shows. */
    private static BidLanguage shows(String own, int[] least, int[] greatest, int count, int... sums) {
        BidLanguage x = new BidLanguage();
        x.rule(0, 0, 1, 0);
        for (int what = 0; what < 5; what++) {
            x.limit(0, what, least[what], greatest[what]);
        }
        due("give to 0", x.give(0, fiveOf(ALL_CARDS & ~(31 << 5) & ~cards(own))), 31);
        due("give to 1", x.give(1, cards(own)), 31 << 5);
        makeAll(x, 0);
        due("hands", x.hands(0, cards(own)), count);
        for (int strain = 0; strain < 5; strain++) {
            due("expected(1, " + strain + ")", x.expected(1, strain), sums[strain]);
        }
        return x;
    }

    private static int fiveOf(int cards) {
        int left = cards;
        while (Integer.bitCount(left) > 5) {
            left &= left - 1;
        }
        return left;
    }

    private static BidLanguage showsOne(String own, int[] exactly, int... sums) {
        return shows(own, exactly, exactly, 1, sums);
    }

    /** One trick and more with suit 0 alone: 59 by 35. */
    private static BidLanguage lowest() {
        return shows("c0 d20 s32", of(2, 0, 0, 0, 2), of(2, 2, 3, 2, 6), 35, 59, 39, 26, 54, 3);
    }

    private static int[] of(int... numbers) {
        return numbers;
    }

    private static void contractEdges() {
        sentence("Promise 24: of several strains with the greatest sum the greatest, of all five", x -> {
            due("contract", x.contract(0), 24);
        });
        sentence("Promise 24: of several strains with the greatest sum the greatest, of two", x -> {
            due("0 and 1", showsOne("c21 d3 h32", of(1, 3, 0, 1, 3), 2, 2, 1, 1, 0).contract(1), 6);
            due("0 and 2", showsOne("c42 h421", of(1, 2, 1, 1, 1), 4, 2, 4, 2, 2).contract(1), 17);
            due("0 and 3", showsOne("c42 d0 h0 s4", of(2, 0, 0, 3, 4), 4, 2, 2, 4, 2).contract(1), 18);
            int[] shown = of(0, 2, 3, 0, 11);
            due("1 and 2", shows("c40 d1 h2 s2", shown, shown, 4, 15, 20, 20, 15, 15).contract(1), 22);
        });
        sentence("Promise 24: of several strains with the greatest sum the greatest, with one trick", x -> {
            due("1, 2 and 3", showsOne("c0 d2 h20 s3", of(0, 3, 1, 1, 5), 0, 1, 1, 1, 0).contract(1), 3);
            due("all five", showsOne("d420 h3 s2", of(0, 1, 3, 1, 4), 1, 1, 1, 1, 1).contract(1), 4);
        });
        sentence("Promise 24: the strain with the greatest sum, if it is the only one", x -> {
            due("0", lowest().contract(1), 0);
        });
        sentence("Promise 24: the tricks are divided and rounded down", x -> {
            int[] two = of(0, 0, 3, 2, 12);
            due("9 by 2", shows("c0 d0 h1 s20", two, two, 2, 5, 5, 9, 9, 5).contract(1), 18);
            int[] least = of(3, 1, 0, 1, 4);
            due("5 by 3", shows("c3 d41 s31", least, of(3, 1, 0, 1, 5), 3, 5, 5, 5, 5, 5).contract(1), 4);
        });
        sentence("Promise 24: NONE if the tricks are 0, also with a sum that is not 0", x -> {
            due("no tricks at all, four hands", withoutTricks().contract(1), NONE);
            BidLanguage one = showsOne("c32 d3 h3 s3", of(2, 1, 1, 1, 1), 0, 0, 0, 0, 0);
            due("no tricks at all, one hand", one.contract(1), NONE);
            int[] least = of(0, 1, 1, 3, 7);
            due("3 by 4", shows("d20 h31 s1", least, of(0, 1, 1, 3, 8), 4, 3, 3, 3, 3, 3).contract(1), NONE);
        });
        sentence("Promise 24: a contract if the sum is just the number of hands", x -> {
            int[] least = of(2, 2, 0, 1, 5);
            due("3 by 3", shows("c1 d1 h3 s20", least, of(2, 2, 0, 1, 6), 3, 3, 3, 0, 3, 0).contract(1), 3);
        });
        sentence("Promise 24: the bids go from 0, one trick with suit 0, to 24, five with no trumps", x -> {
            due("the highest", x.contract(1), 24);
            due("the lowest", lowest().contract(1), 0);
        });
        sentence("Promise 24: NONE if there are no such hands", x -> {
            x.rule(0, 0, 1, 0);
            x.limit(0, 0, 5, 5);
            due("give", x.give(0, 31 << 15), 31);
            due("give", x.give(1, 1 | 15 << 5), 31 << 5);
            makeAll(x, 0);
            due("hands with no known card", x.hands(0, 0), 1);
            due("1 has one of the cards itself", x.contract(1), NONE);
            due("0 sees hands", x.contract(0), 24);
        });
        sentence("Promise 24: NO_SUCH if there is no such partner", x -> {
            for (int bad : new int[] {-1, 2, LEAST_INT, GREATEST_INT}) {
                due("partner " + bad, x.contract(bad), NO_SUCH);
            }
        });
    }

    public static void main(String[] args) {
        winners();
        noTrumps();
        ruffs();
        tricksEdges();
        expectedEdges();
        contractEdges();
        finish("ContractsEdgesTest");
    }
}
