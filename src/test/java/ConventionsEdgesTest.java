/** The sentences that hold for all methods: constants, order of the errors, what an error changes, NONE, 512 calls. */
public final class ConventionsEdgesTest extends Checks {
    private static final int[] ODD = {LEAST_INT, -32, -7, -6, -1, 0, 1, 5, 25, 31, 65536, 1 << 20, GREATEST_INT};
    private static final int[] FEW = {LEAST_INT, -1, 0, 3, 26, 992, GREATEST_INT};

    /** New objects in all that an auction can be in, as each is used for 512 calls at most. */
    private static BidLanguage[] inAllEndings() {
        return new BidLanguage[] {new BidLanguage(), busy(), stuck(), passed(), twelve()};
    }

    private static void constants() {
        sentence("Constants: NO_SUCH = -1", x -> due("NO_SUCH", BidLanguage.NO_SUCH, -1));
        sentence("Constants: BAD_VALUE = -2", x -> due("BAD_VALUE", BidLanguage.BAD_VALUE, -2));
        sentence("Constants: BAD_TEXT = -3", x -> due("BAD_TEXT", BidLanguage.BAD_TEXT, -3));
        sentence("Constants: TOO_MANY = -4", x -> due("TOO_MANY", BidLanguage.TOO_MANY, -4));
        sentence("Constants: NOT_POSSIBLE = -5", x -> due("NOT_POSSIBLE", BidLanguage.NOT_POSSIBLE, -5));
        sentence("Constants: NONE = -6", x -> due("NONE", BidLanguage.NONE, -6));
        sentence("Constants: PASS = 25", x -> due("PASS", BidLanguage.PASS, 25));
    }

    private static void numbering() {
        sentence("Conventions: everything is numbered from 0", x -> {
            due("the first rule", x.rule(0, 0, 1, 0), 0);
            due("the second rule", x.rule(1, 1, 0, 0), 1);
            makeAll(x, 0, 1);
            due("the rule of the first call", x.made(0, 1), 0);
            due("the rule of the second call", x.made(1, 1), 1);
            write(x, "x");
            due("the first character", x.fault(), 0);
        });
        sentence("Conventions: sets of cards are bit masks", x -> {
            due("hand of 0", x.hand(0, 0), 1 | 2 | 4 | 8 | 16);
            due("the highest card", x.hands(0, 1 << 19), ALL * 15 / 20);
            due("all cards but the lowest five", x.shown(0, ALL_CARDS - 31, 10), 31);
        });
        sentence("Conventions: divisions are rounded down", x -> {
            x.rule(0, 0, 1, 0);
            x.limit(0, 2, 3, 3);
            x.limit(0, 3, 2, 2);
            x.limit(0, 4, 12, 12);
            x.give(0, cards("h0234 s4"));
            x.give(1, cards("c0 d0 h1 s20"));
            makeAll(x, 0);
            due("hands", x.hands(0, x.hand(1, 0)), 2);
            due("the greatest sum", x.expected(1, 3), 9);
            due("contract of 9 / 2", x.contract(1), 18);
        });
    }

    // ---- the order of the errors

    private static void orderOfRules() {
        sentence("Order of rule(): BAD_VALUE, TOO_MANY, NOT_POSSIBLE", x -> {
            fill(x, 24);
            due("all three", x.rule(0, 0, 0, 2), BAD_VALUE);
            due("the last two", x.rule(0, 0, 0, 0), TOO_MANY);
            x.remove(23);
            due("the first and the last one", x.rule(0, 0, 8, 0), BAD_VALUE);
            due("the last one", x.rule(0, 0, 0, 0), NOT_POSSIBLE);
        });
        sentence("Order of limit(): NO_SUCH, BAD_VALUE", x -> {
            x.rule(0, 0, 0, 0);
            due("what too great", x.limit(1, 5, 0, 5), NO_SUCH);
            due("what too small", x.limit(-1, -1, 0, 5), NO_SUCH);
            due("high too small", x.limit(1, 0, 3, 2), NO_SUCH);
        });
        sentence("Order of part(): NO_SUCH, BAD_VALUE", x -> {
            due("both, no rules", x.part(0, 14), NO_SUCH);
            due("both, rule -1", x.part(-1, -1), NO_SUCH);
        });
    }

    private static void orderOfHands() {
        sentence("Order of give(): NO_SUCH, BAD_VALUE, NOT_POSSIBLE", x -> {
            due("the first two", x.give(2, 30), NO_SUCH);
            due("the first one, with cards that both have", x.give(-1, 31), NO_SUCH);
            due("the last two: four cards of the other", x.give(0, 15 << 5), BAD_VALUE);
            due("the last two: six cards of both", x.give(0, 63), BAD_VALUE);
            due("the last one", x.give(0, 992), NOT_POSSIBLE);
        });
        sentence("Order of hand(): NO_SUCH, BAD_VALUE", x -> {
            due("both, too great", x.hand(2, 6), NO_SUCH);
            due("both, too small", x.hand(-1, -1), NO_SUCH);
        });
    }

    private static void orderOfAuctions() {
        sentence("Order of make(): BAD_VALUE, NOT_POSSIBLE", x -> {
            due("26 behind a pass", passed().make(26), BAD_VALUE);
            due("-1 when it is stuck", stuck().make(-1), BAD_VALUE);
            due("26 behind 12 calls", twelve().make(26), BAD_VALUE);
            due("26 without rules", x.make(26), BAD_VALUE);
        });
        sentence("Order of made(): BAD_VALUE, NONE", x -> {
            due("no such call, what too great", x.made(0, 4), BAD_VALUE);
            due("no such call, what too small", x.made(-1, -1), BAD_VALUE);
        });
    }

    private static void orderOfTold() {
        sentence("Order of hands(): NO_SUCH, BAD_VALUE", x -> {
            due("both, too great", x.hands(2, 1 << 20), NO_SUCH);
            due("both, too small", x.hands(-1, -1), NO_SUCH);
        });
        sentence("Order of shown(): NO_SUCH, BAD_VALUE, NONE", x -> {
            due("all three, too great", x.shown(2, ALL_CARDS, 12), NO_SUCH);
            due("all three, too small", x.shown(-1, -1, -1), NO_SUCH);
            due("no partner, no hands", x.shown(2, ALL_CARDS, 0), NO_SUCH);
            due("what too great, no hands", x.shown(0, ALL_CARDS, 12), BAD_VALUE);
            due("what too small, no hands", x.shown(0, ALL_CARDS, -1), BAD_VALUE);
            due("no hands", x.shown(0, ALL_CARDS, 11), NONE);
        });
        sentence("Order of fits(): NO_SUCH, BAD_VALUE", x -> {
            due("both, too great", x.fits(2, 1 << 20), NO_SUCH);
            due("both, too small", x.fits(-1, -1), NO_SUCH);
        });
        sentence("Order of ruleOf(): BAD_VALUE, NOT_POSSIBLE, NONE", x -> {
            due("four cards behind a pass", passed().ruleOf(30), BAD_VALUE);
            due("four cards when it is stuck", stuck().ruleOf(30), BAD_VALUE);
            due("a hand without a rule when it is stuck", stuck().ruleOf(31), NOT_POSSIBLE);
            due("four cards without rules", x.ruleOf(30), BAD_VALUE);
        });
    }

    private static void orderOfContracts() {
        sentence("Order of expected(): NO_SUCH, BAD_VALUE", x -> {
            due("both, too great", x.expected(2, 5), NO_SUCH);
            due("both, too small", x.expected(-1, -1), NO_SUCH);
        });
        sentence("Order of contract(): NO_SUCH, NONE", x -> {
            x.rule(0, 0, 1, 0);
            x.limit(0, 4, 20, 20);
            makeAll(x, 0);
            due("hands of 0", x.hands(0, 0), 0);
            due("the partner who sees no hands", x.contract(1), NONE);
            due("no partner", x.contract(2), NO_SUCH);
            due("no partner", x.contract(-1), NO_SUCH);
        });
    }

    private static void orderOfTexts() {
        sentence("Order of put(): BAD_VALUE, TOO_MANY", x -> {
            write(x, "aaaaaaaabbbbbbbbccccccccddddddddeeeeeeeeffffffffgggggggghhhh");
            due("a blank when the pad is full", x.put(32), BAD_VALUE);
            due("no character when the pad is full", x.put(0), BAD_VALUE);
            due("a gap when the pad is full", x.put(0x610061L), BAD_VALUE);
            due("a letter when the pad is full", x.put('a'), TOO_MANY);
        });
        sentence("Order of load(): BAD_TEXT, TOO_MANY, NOT_POSSIBLE", x -> {
            fill(x, 24);
            write(x, "0:1c>0!,");
            due("all three", x.load(), BAD_TEXT);
            write(x, "0:1c>0!");
            due("the last two", x.load(), TOO_MANY);
            x.remove(23);
            due("the last one", x.load(), NOT_POSSIBLE);
            x.put(',');
            due("the first and the last one", x.load(), BAD_TEXT);
        });
    }

    // ---- a call that returns an error changes nothing

    private static void nothingChangesByRules() {
        sentence("A rule() that fails changes nothing", unused -> {
            BidLanguage x = busy();
            dueFails("a state out of range", x, () -> x.rule(8, 0, 0, 0), BAD_VALUE);
            dueFails("a call of the state", x, () -> x.rule(0, 3, 5, 0), NOT_POSSIBLE);
            BidLanguage full = new BidLanguage();
            fill(full, 24);
            makeAll(full, 0, 1);
            dueFails("a rule too many", full, () -> full.rule(0, 24, 0, 0), TOO_MANY);
        });
        sentence("A limit() that fails changes nothing", unused -> {
            BidLanguage x = busy();
            dueFails("no such rule", x, () -> x.limit(4, 0, 1, 2), NO_SUCH);
            dueFails("no such number", x, () -> x.limit(0, 5, 1, 2), BAD_VALUE);
            dueFails("a good low, a bad high", x, () -> x.limit(0, 0, 1, 6), BAD_VALUE);
            dueFails("a bad low, a good high", x, () -> x.limit(0, 0, -1, 4), BAD_VALUE);
            dueFails("a high below the low", x, () -> x.limit(0, 4, 9, 8), BAD_VALUE);
        });
        sentence("A remove() that fails changes nothing", unused -> {
            BidLanguage x = busy();
            dueFails("the rule behind the last", x, () -> x.remove(4), NO_SUCH);
            dueFails("the rule before the first", x, () -> x.remove(-1), NO_SUCH);
        });
        sentence("A move() that fails changes nothing", unused -> {
            BidLanguage x = busy();
            dueFails("a rule to behind the last", x, () -> x.move(0, 4), NO_SUCH);
            dueFails("a rule to before the first", x, () -> x.move(3, -1), NO_SUCH);
            dueFails("a rule that is none", x, () -> x.move(4, 0), NO_SUCH);
        });
    }

    private static void nothingChangesByHands() {
        sentence("A give() that fails changes nothing", unused -> {
            BidLanguage x = busy();
            dueFails("no such partner", x, () -> x.give(2, 31), NO_SUCH);
            dueFails("six cards", x, () -> x.give(0, 63), BAD_VALUE);
            dueFails("a card of the other", x, () -> x.give(1, cards("c0123 s4")), NOT_POSSIBLE);
            dueFails("a card of the other", x, () -> x.give(0, cards("c0123 h0")), NOT_POSSIBLE);
        });
        sentence("A draw() that fails changes nothing", unused -> {
            BidLanguage x = busy();
            dueFails("a seed too great", x, () -> x.draw(65536), BAD_VALUE);
            dueFails("a seed too small", x, () -> x.draw(-1), BAD_VALUE);
        });
    }

    private static void nothingChangesByAuctions() {
        sentence("A call() that fails changes nothing", unused -> {
            BidLanguage over = passed();
            dueFails("behind a pass", over, over::call, NOT_POSSIBLE);
            BidLanguage stuck = stuck();
            dueFails("when it is stuck", stuck, stuck::call, NOT_POSSIBLE);
            BidLanguage twelve = twelve();
            dueFails("behind 12 calls", twelve, twelve::call, NOT_POSSIBLE);
        });
        sentence("A make() that fails changes nothing", unused -> {
            BidLanguage x = busy();
            dueFails("no call", x, () -> x.make(26), BAD_VALUE);
            dueFails("a call without a rule", x, () -> x.make(13), NOT_POSSIBLE);
            dueFails("a pass when forced", x, () -> x.make(PASS), NOT_POSSIBLE);
            BidLanguage stuck = stuck();
            dueFails("when it is stuck", stuck, () -> stuck.make(9), NOT_POSSIBLE);
            BidLanguage twelve = twelve();
            dueFails("behind 12 calls", twelve, () -> twelve.make(13), NOT_POSSIBLE);
        });
        sentence("A back() that fails changes nothing", x -> {
            x.rule(0, 3, 1, 1);
            dueFails("no calls", x, x::back, NOT_POSSIBLE);
        });
    }

    private static void nothingChangesByTexts() {
        sentence("A put() that fails changes nothing", x -> {
            write(x, "0:1c>0");
            dueFails("no character", x, () -> x.put(0), BAD_VALUE);
            dueFails("good characters behind a bad one", x, () -> x.put(0x202C63302D35L), BAD_VALUE);
            dueFails("a bad character behind good ones", x, () -> x.put(0x2C63302D3520L), BAD_VALUE);
            dueFails("characters above a gap", x, () -> x.put(0x2100002CL), BAD_VALUE);
            due("load of the text as it was", x.load(), 0);
            write(x, "0:1d>0,c0-5,d0-5,h0-5,s0-5,+10-20");
            for (int i = 33; i < 60; i++) {
                due("put", x.put('!'), i + 1);
            }
            dueFails("a character too many", x, () -> x.put('!'), TOO_MANY);
        });
        sentence("A load() that fails changes nothing, the pad stays", unused -> {
            BidLanguage x = busy();
            dueFails("a call of the state", x, x::load, NOT_POSSIBLE);
            due("the pad", x.state(7), 6);
            x.put(',');
            dueFails("a fault", x, x::load, BAD_TEXT);
            due("the pad", x.state(7), 7);
            x.put(packed("c1-2"));
            x.remove(0);
            due("load of the text that stayed", x.load(), 3);
            dueParts(x, 3, 0, 3, 0, 0, 1, 2);
            BidLanguage full = new BidLanguage();
            fill(full, 24);
            makeAll(full, 0, 1);
            write(full, "0:5n>0");
            dueFails("a rule too many", full, full::load, TOO_MANY);
            due("the pad", full.state(7), 6);
            full.remove(23);
            due("load of the text that stayed", full.load(), 23);
        });
    }

    private static void nothingChangesByLooking() {
        sentence("Calls that only tell change nothing, with answers and with errors", unused -> {
            for (BidLanguage x : inAllEndings()) {
                String before = picture(x);
                for (int odd : new int[] {-1, 0, 31, 1 << 20}) {
                    x.fits(0, odd);
                    x.ruleOf(odd);
                    x.tricks(4, 992, odd);
                    x.shown(1, odd, 10);
                    x.hands(1, odd);
                    x.holes(0, odd, 1);
                    x.expected(1, odd);
                    x.contract(odd);
                    x.reach(odd);
                    x.state(odd);
                    x.made(0, odd);
                    x.hand(1, odd);
                    x.part(0, odd);
                }
                dueText("after calls that tell", picture(x), before);
            }
        });
    }

    // ---- NONE

    private static void none() {
        sentence("NONE is returned only if no error applies", x -> {
            due("made() of no call, with what out of range", x.made(0, 4), BAD_VALUE);
            due("shown() of no hands, with what out of range", x.shown(0, ALL_CARDS, 12), BAD_VALUE);
            due("call() of a hand without a rule", x.call(), NONE);
            due("call() of a hand without a rule when it is stuck", x.call(), NOT_POSSIBLE);
            due("ruleOf() of a hand without a rule when it is stuck", x.ruleOf(31), NOT_POSSIBLE);
        });
        sentence("NONE is not an error: call() with it changes the auction", x -> {
            due("call()", x.call(), NONE);
            due("the ending", x.state(5), 2);
        });
    }

    // ---- all arguments, and many calls

    private static void extremes() {
        sentence("No arguments let a call throw, or answer what is no answer", unused -> {
            for (int a : ODD) {
                for (BidLanguage x : inAllEndings()) {
                    twoArguments(x, a);
                }
            }
            for (int a : FEW) {
                for (BidLanguage x : inAllEndings()) {
                    threeArguments(x, a);
                }
            }
        });
    }

    private static void twoArguments(BidLanguage x, int a) {
        for (int b : ODD) {
            dueAnswer(x.move(a, b), x.part(a, b), x.give(a, b), x.hand(a, b), x.made(a, b), x.hands(a, b));
            dueAnswer(x.fits(a, b), x.expected(a, b));
        }
        dueAnswer(x.make(a), x.contract(a), x.state(a), x.ruleOf(a), x.reach(a), x.remove(a), x.draw(a));
        dueAnswer(x.put(a), x.put((long) a << 32), x.put((long) a << 56 | 0x41));
        dueAnswer(x.begin(), x.call(), x.back(), x.fault(), x.load());
    }

    private static void threeArguments(BidLanguage x, int a) {
        for (int b : FEW) {
            for (int c : FEW) {
                dueAnswer(x.shown(a, b, c), x.holes(a, b, c), x.tricks(a, b, c));
                dueAnswer(x.rule(a, b, c, 0), x.rule(0, a, b, c), x.limit(0, a, b, c), x.limit(a, b, c, 5));
            }
        }
    }

    private static void dueAnswer(long... answers) {
        for (long answer : answers) {
            due("an answer out of all answers", answer < NONE || answer > ALL_CARDS ? 1 : 0, 0);
        }
    }

    private static void manyCalls() {
        sentence("An object is used for 512 calls: also the last ones answer", x -> {
            for (int i = 0; i < 252; i++) {
                due("begin()", x.begin(), 0);
                due("call()", x.call(), NONE);
            }
            due("call 505", x.back(), 0);
            due("call 506", x.rule(0, 24, 1, 1), 0);
            due("call 507", x.limit(0, 0, 4, 5), 76);
            due("call 508", x.call(), 24);
            due("call 509", x.state(3), 1);
            due("call 510", x.hands(0, 0), 76);
            due("call 511", x.put('x'), 1);
            due("call 512", x.fault(), 0);
        });
        sentence("An object is used for 512 calls: all of them may make and refuse rules", x -> {
            for (int i = 0; i < 64; i++) {
                due("put", x.put(packed("0:1c>0,+")), 8);
                due("put", x.put(packed("10-20")), 13);
                due("load", x.load(), 0);
                due("rule", x.rule(0, 0, 0, 0), NOT_POSSIBLE);
                due("make", x.make(0), 1);
                due("back", x.back(), 0);
                due("ruleOf", x.ruleOf(31), 0);
                due("remove", x.remove(0), 0);
            }
        });
    }

    public static void main(String[] args) {
        constants();
        numbering();
        orderOfRules();
        orderOfHands();
        orderOfAuctions();
        orderOfTold();
        orderOfContracts();
        orderOfTexts();
        nothingChangesByRules();
        nothingChangesByHands();
        nothingChangesByAuctions();
        nothingChangesByTexts();
        nothingChangesByLooking();
        none();
        extremes();
        manyCalls();
        finish("ConventionsEdgesTest");
    }
}
