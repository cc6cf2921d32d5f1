/** Each promise of the document by answers that were found by hand: ordinary inputs, edges and wrong inputs. */
public final class PromiseTest extends Checks {
    /** A workshop with one call made, by which it can be seen whether the auction began anew. */
    private static BidLanguage inAuction() {
        BidLanguage x = new BidLanguage();
        x.rule(0, 3, 1, 1);
        x.rule(1, 9, 0, 0);
        due("make(3)", x.make(3), 1);
        return x;
    }

    private static void dueGoesOn(String after, BidLanguage x) {
        dueAuction("after " + after, x, 1, 1, 3, 1, 1, 0);
    }

    private static void newObject() {
        BidLanguage x = new BidLanguage();
        dueAuction("of a new object", x, 0, 0, NONE, 0, 0, 0, 0, 0);
        due("hand of 0", x.hand(0, 0), 31);
        due("hand of 1", x.hand(1, 0), 992);
        due("part of no rule", x.part(0, 0), NO_SUCH);
        due("made of no call", x.made(0, 0), NONE);
        due("wipe of an empty pad", x.wipe(), 0);
    }

    private static void rule() {
        BidLanguage x = new BidLanguage();
        due("first rule", x.rule(7, PASS, 7, 1), 0);
        due("second rule", x.rule(0, 24, 0, 0), 1);
        due("the call in another state", x.rule(1, 24, 7, 1), 2);
        dueParts(x, 0, 7, PASS, 7, 1, 0, 5, 0, 5, 0, 5, 0, 5, 0, 20);
        dueParts(x, 1, 0, 24, 0, 0, 0, 5, 0, 5, 0, 5, 0, 5, 0, 20);
        due("rule(-1, 0, 0, 0)", x.rule(-1, 0, 0, 0), BAD_VALUE);
        due("rule(8, 0, 0, 0)", x.rule(8, 0, 0, 0), BAD_VALUE);
        due("rule(0, -1, 0, 0)", x.rule(0, -1, 0, 0), BAD_VALUE);
        due("rule(0, 26, 0, 0)", x.rule(0, 26, 0, 0), BAD_VALUE);
        due("rule(0, 0, -1, 0)", x.rule(0, 0, -1, 0), BAD_VALUE);
        due("rule(0, 0, 8, 0)", x.rule(0, 0, 8, 0), BAD_VALUE);
        due("rule(0, 0, 0, -1)", x.rule(0, 0, 0, -1), BAD_VALUE);
        due("rule(0, 0, 0, 2)", x.rule(0, 0, 0, 2), BAD_VALUE);
        due("the same call of the state", x.rule(0, 24, 5, 1), NOT_POSSIBLE);
        due("the same pass of the state", x.rule(7, PASS, 0, 0), NOT_POSSIBLE);
        due("rules", x.state(6), 3);
        BidLanguage full = new BidLanguage();
        fill(full, 24);
        due("rule 24", full.rule(0, 24, 0, 0), TOO_MANY);
        due("rule 24 with a call that is there", full.rule(0, 0, 0, 0), TOO_MANY);
        due("rule 24 out of range", full.rule(8, 0, 0, 0), BAD_VALUE);
        due("rules", full.state(6), 24);
        BidLanguage y = inAuction();
        y.rule(0, 3, 0, 0);
        y.rule(8, 0, 0, 0);
        dueGoesOn("a rule that failed", y);
        y.rule(5, 5, 5, 0);
        dueAnew("rule", y);
    }

    private static void limit() {
        BidLanguage x = new BidLanguage();
        x.rule(0, 0, 0, 0);
        x.rule(0, 1, 0, 0);
        int[] ofLength = {3003, 6825, 4550, 1050, 75, 1};
        for (int suit = 0; suit < 4; suit++) {
            for (int length = 0; length <= 5; length++) {
                due("limit to length " + length, x.limit(0, suit, length, length), ofLength[length]);
            }
            due("limit to 2-3", x.limit(0, suit, 2, 3), 4550 + 1050);
            due("limit to 0-5", x.limit(0, suit, 0, 5), ALL);
        }
        due("limit to strength 0", x.limit(0, 4, 0, 0), 0);
        due("limit to strength 1", x.limit(0, 4, 1, 1), 4);
        due("limit to strength 19", x.limit(0, 4, 19, 19), 4);
        due("limit to strength 20", x.limit(0, 4, 20, 20), 0);
        due("limit to strength 1-18", x.limit(0, 4, 1, 18), ALL - 4);
        due("limit to length 5 too", x.limit(0, 3, 5, 5), 1);
        dueParts(x, 0, 0, 0, 0, 0, 0, 5, 0, 5, 0, 5, 5, 5, 1, 18);
        dueParts(x, 1, 0, 1, 0, 0, 0, 5, 0, 5, 0, 5, 0, 5, 0, 20);
        due("limit to strength 11-20 too", x.limit(0, 4, 11, 20), 0);
        due("limit to strength 10-20 too", x.limit(0, 4, 10, 20), 1);
        due("limit(2, 0, 0, 5)", x.limit(2, 0, 0, 5), NO_SUCH);
        due("limit(-1, 9, 0, 5)", x.limit(-1, 9, 0, 5), NO_SUCH);
        due("limit(0, -1, 0, 5)", x.limit(0, -1, 0, 5), BAD_VALUE);
        due("limit(0, 5, 0, 5)", x.limit(0, 5, 0, 5), BAD_VALUE);
        due("limit(0, 0, -1, 5)", x.limit(0, 0, -1, 5), BAD_VALUE);
        due("limit(0, 0, 6, 6)", x.limit(0, 0, 6, 6), BAD_VALUE);
        due("limit(0, 0, 3, 2)", x.limit(0, 0, 3, 2), BAD_VALUE);
        due("limit(0, 3, 0, 6)", x.limit(0, 3, 0, 6), BAD_VALUE);
        due("limit(0, 4, 0, 21)", x.limit(0, 4, 0, 21), BAD_VALUE);
        due("limit(0, 4, 21, 21)", x.limit(0, 4, 21, 21), BAD_VALUE);
        dueParts(x, 0, 0, 0, 0, 0, 0, 5, 0, 5, 0, 5, 5, 5, 10, 20);
        BidLanguage y = inAuction();
        y.limit(0, 0, 0, 6);
        dueGoesOn("a limit that failed", y);
        y.limit(1, 0, 0, 5);
        dueAnew("a limit that changed nothing", y);
    }

    private static void remove() {
        BidLanguage x = new BidLanguage();
        fill(x, 4);
        due("remove(4)", x.remove(4), NO_SUCH);
        due("remove(-1)", x.remove(-1), NO_SUCH);
        due("remove(1)", x.remove(1), 3);
        due("state of rule 0", x.part(0, 0), 0);
        due("state of rule 1", x.part(1, 0), 2);
        due("state of rule 2", x.part(2, 0), 3);
        due("part of rule 3", x.part(3, 0), NO_SUCH);
        due("the removed rule again", x.rule(1, 0, 0, 0), 3);
        due("remove(3)", x.remove(3), 3);
        due("remove(0)", x.remove(0), 2);
        due("remove(0)", x.remove(0), 1);
        due("remove(0)", x.remove(0), 0);
        due("remove(0)", x.remove(0), NO_SUCH);
        BidLanguage y = inAuction();
        y.remove(2);
        dueGoesOn("a remove that failed", y);
        y.remove(1);
        dueAnew("remove", y);
    }

    private static void move() {
        BidLanguage x = new BidLanguage();
        for (int i = 0; i < 4; i++) {
            x.rule(0, 10 + i, 0, 0);
        }
        due("move(0, 2)", x.move(0, 2), 10);
        dueCalls(x, 11, 12, 10, 13);
        due("move(3, 0)", x.move(3, 0), 13);
        dueCalls(x, 13, 11, 12, 10);
        due("move(0, 3)", x.move(0, 3), 13);
        dueCalls(x, 11, 12, 10, 13);
        due("move(1, 1)", x.move(1, 1), 12);
        dueCalls(x, 11, 12, 10, 13);
        due("move(4, 0)", x.move(4, 0), NO_SUCH);
        due("move(-1, 0)", x.move(-1, 0), NO_SUCH);
        due("move(0, 4)", x.move(0, 4), NO_SUCH);
        due("move(0, -1)", x.move(0, -1), NO_SUCH);
        dueCalls(x, 11, 12, 10, 13);
        x.limit(2, 1, 5, 5);
        x.move(2, 0);
        due("the range goes with the rule", x.part(0, 6), 5);
        due("the range goes from the other rule", x.part(2, 6), 0);
        BidLanguage y = inAuction();
        y.move(0, 2);
        dueGoesOn("a move that failed", y);
        y.move(1, 1);
        dueAnew("a move that changed nothing", y);
    }

    private static void part() {
        BidLanguage x = new BidLanguage();
        x.rule(6, 17, 5, 1);
        for (int suit = 0; suit < 4; suit++) {
            x.limit(0, suit, suit, 5 - (suit + 1) % 2);
        }
        x.limit(0, 4, 7, 19);
        dueParts(x, 0, 6, 17, 5, 1, 0, 4, 1, 5, 2, 4, 3, 5, 7, 19);
        due("part(0, 14)", x.part(0, 14), BAD_VALUE);
        due("part(0, -1)", x.part(0, -1), BAD_VALUE);
        due("part(1, 14)", x.part(1, 14), NO_SUCH);
        due("part(-1, 0)", x.part(-1, 0), NO_SUCH);
    }

    private static void give() {
        BidLanguage x = new BidLanguage();
        int low = cards("c0 d0 h0 s01");
        int high = cards("c4 d4 h4 s43");
        due("give(0, low)", x.give(0, low), NOT_POSSIBLE);
        due("give(1, high)", x.give(1, high), NOT_POSSIBLE);
        due("give(0, all of suit 2)", x.give(0, 31 << 10), 31);
        due("give(1, all of suit 3)", x.give(1, 31 << 15), 992);
        due("give(1, its own hand)", x.give(1, 31 << 15), 31 << 15);
        due("give(0, back)", x.give(0, 31), 31 << 10);
        due("hand of 0", x.hand(0, 0), 31);
        due("hand of 1", x.hand(1, 0), 31 << 15);
        due("give(2, 30)", x.give(2, 30), NO_SUCH);
        due("give(-1, 31)", x.give(-1, 31), NO_SUCH);
        due("give of four cards", x.give(0, 30), BAD_VALUE);
        due("give of six cards", x.give(0, 63), BAD_VALUE);
        due("give of a card that is not in the pack", x.give(0, 15 | 1 << 20), BAD_VALUE);
        due("give below 0", x.give(0, Integer.MIN_VALUE | 15), BAD_VALUE);
        due("give of four cards of the other", x.give(0, 15 << 15), BAD_VALUE);
        due("hand of 0", x.hand(0, 0), 31);
        BidLanguage y = inAuction();
        y.give(0, 992);
        dueGoesOn("a give that failed", y);
        y.give(0, 31);
        dueAnew("a give of the same hand", y);
    }

    private static void draw() {
        BidLanguage x = new BidLanguage();
        due("draw(0)", x.draw(0), 268321);
        due("hand of 0", x.hand(0, 0), 268321);
        due("hand of 1", x.hand(1, 0), 165008);
        due("draw(77)", x.draw(77), 311425);
        due("hand of 1", x.hand(1, 0), 2836);
        for (int seed : new int[] {1, 2, 4095, 32768, 65535}) {
            int[] hands = drawn(seed);
            due("draw(" + seed + ")", x.draw(seed), hands[0]);
            due("hand of 0", x.hand(0, 0), hands[0]);
            due("hand of 1", x.hand(1, 0), hands[1]);
        }
        due("draw(-1)", x.draw(-1), BAD_VALUE);
        due("draw(65536)", x.draw(65536), BAD_VALUE);
        BidLanguage y = inAuction();
        y.draw(65536);
        dueGoesOn("a draw that failed", y);
        y.draw(5);
        dueAnew("draw", y);
    }

    private static void hand() {
        BidLanguage x = new BidLanguage();
        int given = cards("c41 d0 s32");
        x.give(1, 31 << 10);
        x.give(0, given);
        int[] want = {given, 2, 1, 0, 2, 10};
        for (int what = 0; what < 6; what++) {
            due("hand(0, " + what + ")", x.hand(0, what), want[what]);
        }
        due("length of 1 in suit 2", x.hand(1, 3), 5);
        due("strength of 1", x.hand(1, 5), 10);
        due("hand(2, 0)", x.hand(2, 0), NO_SUCH);
        due("hand(-1, 9)", x.hand(-1, 9), NO_SUCH);
        due("hand(0, -1)", x.hand(0, -1), BAD_VALUE);
        due("hand(0, 6)", x.hand(0, 6), BAD_VALUE);
    }

    private static void begin() {
        BidLanguage x = inAuction();
        due("make(9)", x.make(9), 2);
        due("begin()", x.begin(), 2);
        dueAnew("begin", x);
        due("begin()", x.begin(), 0);
        BidLanguage y = new BidLanguage();
        due("call() without rules", y.call(), NONE);
        due("begin() when stuck", y.begin(), 0);
        dueAnew("begin when stuck", y);
        due("rules after begin", x.state(6), 2);
    }

    private static void call() {
        BidLanguage x = new BidLanguage();
        x.rule(0, 7, 1, 0);
        x.rule(0, 2, 2, 1);
        x.limit(0, 0, 0, 4);
        x.rule(2, PASS, 5, 0);
        x.rule(2, 2, 3, 0);
        x.rule(2, 3, 0, 0);
        x.rule(0, PASS, 3, 1);
        due("the first rule that fits", x.call(), 2);
        dueAuction("after 2", x, 1, 2, 2, 1, 1, 0);
        due("no pass when forced, no bid that is not greater", x.call(), 3);
        dueAuction("after 3", x, 2, 0, 3, 0, 0, 0);
        due("a pass when the bid is no greater one", x.call(), PASS);
        dueAuction("after the pass", x, 3, 0, 3, 0, 1, 1);
        due("call() when it is over", x.call(), NOT_POSSIBLE);
        x.begin();
        x.remove(5);
        x.call();
        x.call();
        due("call() without a rule", x.call(), NONE);
        dueAuction("when it is stuck", x, 2, 0, 3, 0, 0, 2);
        due("call() when it is stuck", x.call(), NOT_POSSIBLE);
        BidLanguage y = twelve();
        due("call() after 12", y.call(), NOT_POSSIBLE);
        y.back();
        due("call 11 again", y.call(), 12);
    }

    private static void make() {
        BidLanguage x = new BidLanguage();
        x.rule(0, 10, 4, 1);
        x.limit(0, 0, 0, 0);
        x.rule(4, 10, 4, 1);
        x.rule(4, 11, 4, 0);
        x.rule(4, PASS, 4, 1);
        due("make(-1)", x.make(-1), BAD_VALUE);
        due("make(26)", x.make(26), BAD_VALUE);
        due("make(11) of another state", x.make(11), NOT_POSSIBLE);
        due("make(PASS) of another state", x.make(PASS), NOT_POSSIBLE);
        due("make(10) that the hand does not fit", x.make(10), 1);
        dueAuction("after make(10)", x, 1, 4, 10, 1, 1, 0);
        due("make(10) that is not greater", x.make(10), NOT_POSSIBLE);
        due("make(PASS) when forced", x.make(PASS), NOT_POSSIBLE);
        due("make(11)", x.make(11), 2);
        due("make(PASS)", x.make(PASS), 3);
        dueAuction("after make(PASS)", x, 3, 4, 11, 0, 1, 1);
        due("make(11) when it is over", x.make(11), NOT_POSSIBLE);
        due("make(26) when it is over", x.make(26), BAD_VALUE);
        BidLanguage y = twelve();
        due("make(13) after 12", y.make(13), NOT_POSSIBLE);
        y.back();
        due("make(13) after 11", y.make(13), 12);
        BidLanguage z = new BidLanguage();
        z.rule(0, 0, 0, 0);
        z.limit(0, 0, 0, 0);
        due("call() without a rule", z.call(), NONE);
        due("make(0) when it is stuck", z.make(0), NOT_POSSIBLE);
        z.back();
        due("make(0) when it is not", z.make(0), 1);
    }

    private static void back() {
        BidLanguage x = new BidLanguage();
        due("back() of nothing", x.back(), NOT_POSSIBLE);
        x.rule(0, 10, 4, 1);
        x.rule(4, 11, 6, 0);
        x.rule(6, PASS, 7, 1);
        x.make(10);
        x.make(11);
        x.make(PASS);
        due("back() of the pass", x.back(), 2);
        dueAuction("after back", x, 2, 6, 11, 0, 0, 0);
        due("made of the call that is taken back", x.made(2, 0), NONE);
        due("back() of 11", x.back(), 1);
        dueAuction("after back", x, 1, 4, 10, 1, 1, 0);
        due("back() of 10", x.back(), 0);
        dueAnew("back", x);
        due("back() of nothing", x.back(), NOT_POSSIBLE);
        x.limit(1, 1, 0, 0);
        x.make(10);
        due("call() without a rule", x.call(), NONE);
        due("back() when it is stuck", x.back(), 1);
        dueAuction("after back", x, 1, 4, 10, 1, 1, 0);
        due("back() then", x.back(), 0);
        BidLanguage y = new BidLanguage();
        y.call();
        due("back() when it is stuck without calls", y.back(), 0);
        due("back() then", y.back(), NOT_POSSIBLE);
    }

    private static void made() {
        BidLanguage x = new BidLanguage();
        x.rule(2, PASS, 7, 0);
        x.rule(5, 20, 2, 0);
        x.rule(0, 10, 5, 1);
        x.make(10);
        x.make(20);
        x.make(PASS);
        int[][] want = {{10, 2, 0, 0}, {20, 1, 5, 1}, {PASS, 0, 2, 0}};
        for (int index = 0; index < 3; index++) {
            for (int what = 0; what < 4; what++) {
                due("made(" + index + ", " + what + ")", x.made(index, what), want[index][what]);
            }
        }
        due("made(3, 0)", x.made(3, 0), NONE);
        due("made(-1, 0)", x.made(-1, 0), NONE);
        due("made(0, 4)", x.made(0, 4), BAD_VALUE);
        due("made(0, -1)", x.made(0, -1), BAD_VALUE);
        due("made(3, 4)", x.made(3, 4), BAD_VALUE);
    }

    private static void state() {
        BidLanguage x = new BidLanguage();
        fill(x, 3);
        x.put('x');
        due("rules", x.state(6), 3);
        due("the pad", x.state(7), 1);
        due("state(8)", x.state(8), BAD_VALUE);
        due("state(-1)", x.state(-1), BAD_VALUE);
        BidLanguage y = inAuction();
        dueGoesOn("make", y);
        y.limit(1, 1, 0, 0);
        y.make(3);
        y.call();
        dueAuction("when it is stuck", y, 1, 1, 3, 1, 1, 2);
    }

    /** In state 0: 4 with suit 0 at least 2 long, else 3 from strength 10 on, else a pass. */
    private static BidLanguage told() {
        BidLanguage x = new BidLanguage();
        x.rule(0, 4, 1, 1);
        x.limit(0, 0, 2, 5);
        x.rule(0, 3, 1, 0);
        x.limit(1, 4, 10, 20);
        x.rule(0, PASS, 0, 0);
        x.rule(1, 24, 1, 0);
        x.limit(3, 3, 5, 5);
        x.rule(1, PASS, 1, 0);
        return x;
    }

    private static void hands() {
        BidLanguage x = told();
        due("hands before a call", x.hands(0, 0), ALL);
        due("hands with five known cards", x.hands(1, 31), 3003);
        due("hands with 15 known cards", x.hands(1, ALL_CARDS - 31), 1);
        due("hands with 16 known cards", x.hands(1, ALL_CARDS - 15), 0);
        due("hands with all cards known", x.hands(1, ALL_CARDS), 0);
        x.make(4);
        due("hands of 0 after 4", x.hands(0, 0), 4550 + 1050 + 75 + 1);
        due("hands of 0 after 4 with four cards of suit 0 known", x.hands(0, 15), 0);
        due("hands of 0 after 4 with three cards of suit 0 known", x.hands(0, 7), 455);
        due("hands of 1 after 4", x.hands(1, 0), ALL);
        due("call() without a rule", x.call(), NONE);
        due("hands of 1 when it is stuck", x.hands(1, 0), ALL - 1);
        due("hands of 0 when it is stuck", x.hands(0, 0), 4550 + 1050 + 75 + 1);
        x.begin();
        x.make(PASS);
        int passes = x.hands(0, 0);
        x.back();
        x.make(3);
        due("hands after 3 and after a pass", x.hands(0, 0) + passes, 3003 + 6825);
        x.make(PASS);
        due("hands of 1 after a pass", x.hands(1, 0), ALL - 1);
        due("hands(2, 0)", x.hands(2, 0), NO_SUCH);
        due("hands(-1, -1)", x.hands(-1, -1), NO_SUCH);
        due("hands(0, -1)", x.hands(0, -1), BAD_VALUE);
        due("hands(0, 1048576)", x.hands(0, 1 << 20), BAD_VALUE);
    }

    private static void shown() {
        BidLanguage x = told();
        int[] nothing = {0, 5, 0, 5, 0, 5, 0, 5, 1, 19, 0, ALL_CARDS};
        for (int what = 0; what < 12; what++) {
            due("shown(0, 0, " + what + ")", x.shown(0, 0, what), nothing[what]);
        }
        x.make(4);
        int known = cards("c012 d01234 h0123 s0123");
        int left = cards("c34 h4 s4");
        due("hands that are too few", x.hands(0, known), 0);
        for (int what = 0; what < 12; what++) {
            due("shown of no hands", x.shown(0, known, what), NONE);
        }
        known -= cards("d01");
        left += cards("d01");
        due("hands", x.hands(0, known), 4);
        int[] want = {2, 2, 1, 2, 0, 1, 0, 1, 12, 16, cards("c34"), left};
        for (int what = 0; what < 12; what++) {
            due("shown(0, known, " + what + ")", x.shown(0, known, what), want[what]);
        }
        due("shown(2, 0, 0)", x.shown(2, 0, 0), NO_SUCH);
        due("shown(-1, -1, -1)", x.shown(-1, -1, -1), NO_SUCH);
        due("shown(0, -1, 0)", x.shown(0, -1, 0), BAD_VALUE);
        due("shown(0, 1048576, 0)", x.shown(0, 1 << 20, 0), BAD_VALUE);
        due("shown(0, 0, -1)", x.shown(0, 0, -1), BAD_VALUE);
        due("shown(0, 0, 12)", x.shown(0, 0, 12), BAD_VALUE);
        due("shown(0, all, 12)", x.shown(0, ALL_CARDS, 12), BAD_VALUE);
    }

    private static void fits() {
        BidLanguage x = told();
        int two = cards("c43 d43 h4");
        int one = cards("c4 d43 h43");
        int weak = cards("c0 d01 h01");
        due("fits before a call", x.fits(0, two), 1);
        x.make(3);
        due("fits 3 but the rule before, too", x.fits(0, two), 0);
        due("fits 3", x.fits(0, one), 1);
        due("is too weak for 3", x.fits(0, weak), 0);
        due("the other partner fits", x.fits(1, two), 1);
        x.make(PASS);
        due("passes with five of suit 3", x.fits(1, 31 << 15), 0);
        due("passes without", x.fits(1, two), 1);
        x.begin();
        x.make(4);
        due("call() without a rule", x.call(), NONE);
        due("is stuck with five of suit 3", x.fits(1, 31 << 15), 0);
        due("is stuck without", x.fits(1, two), 1);
        due("is not the one who is stuck", x.fits(0, two), 1);
        due("fits(2, 30)", x.fits(2, 30), NO_SUCH);
        due("fits(-1, 31)", x.fits(-1, 31), NO_SUCH);
        due("fits(0, 30)", x.fits(0, 30), BAD_VALUE);
        due("fits(0, 63)", x.fits(0, 63), BAD_VALUE);
        due("fits(0, 15 and no card)", x.fits(0, 15 | 1 << 20), BAD_VALUE);
        fitsAllCalls();
    }

    private static void fitsAllCalls() {
        BidLanguage x = new BidLanguage();
        x.rule(0, 0, 0, 0);
        x.limit(0, 0, 1, 5);
        x.rule(0, 1, 0, 0);
        x.rule(0, 2, 0, 0);
        x.limit(2, 1, 1, 5);
        x.rule(0, 3, 0, 0);
        x.make(0);
        x.make(1);
        x.make(2);
        due("one call fits, the other does not", x.fits(0, cards("c43 h43 s4")), 0);
        due("the other call fits, the one does not", x.fits(0, cards("d43 h43 s4")), 0);
        due("both calls fit", x.fits(0, cards("c4 d3 h43 s4")), 1);
        due("the calls of the other do not matter", x.fits(0, cards("c4 d3 h43 s4")), 1);
        due("hands of 0, by both its calls", x.hands(0, 0), ALL - 2 * 3003 + 252);
        due("hands of 1", x.hands(1, 0), ALL);
        x.begin();
        x.make(1);
        x.make(2);
        due("hands of 0 if only 1 shows something", x.hands(0, 0), 3003);
        due("hands of 1", x.hands(1, 0), ALL - 3003);
        x.begin();
        x.make(0);
        x.make(1);
        due("the first open rule is not that of the call", x.fits(1, cards("d43 h43 s4")), 1);
        x.begin();
        x.make(0);
        x.make(2);
        due("a call that was passed over", x.fits(1, cards("d43 h43 s4")), 0);
    }

    private static void ruleOf() {
        BidLanguage x = told();
        due("ruleOf with two of suit 0", x.ruleOf(cards("c43 d43 h4")), 0);
        due("ruleOf with one", x.ruleOf(cards("c4 d43 h43")), 1);
        due("ruleOf that is weak", x.ruleOf(cards("c0 d01 h01")), 2);
        x.make(4);
        due("ruleOf with five of suit 3", x.ruleOf(31 << 15), 3);
        due("ruleOf with none when forced", x.ruleOf(31), NONE);
        due("state after NONE", x.state(5), 0);
        due("ruleOf(30)", x.ruleOf(30), BAD_VALUE);
        due("ruleOf(63)", x.ruleOf(63), BAD_VALUE);
        due("ruleOf(-1)", x.ruleOf(-1), BAD_VALUE);
        due("call() without a rule", x.call(), NONE);
        due("ruleOf when it is stuck", x.ruleOf(31), NOT_POSSIBLE);
        due("ruleOf(30) when it is stuck", x.ruleOf(30), BAD_VALUE);
        x.begin();
        x.make(PASS);
        due("ruleOf when it is over", x.ruleOf(31), NOT_POSSIBLE);
        due("ruleOf after 12", twelve().ruleOf(31), NOT_POSSIBLE);
    }

    private static void reach() {
        BidLanguage x = told();
        due("reach(0)", x.reach(0), 4550 + 1050 + 75 + 1);
        due("reach(1) and reach(2)", x.reach(1) + x.reach(2), 3003 + 6825);
        due("reach(3)", x.reach(3), 1);
        due("reach(4)", x.reach(4), ALL - 1);
        x.make(4);
        due("reach(4) though the partner is forced", x.reach(4), ALL - 1);
        dueAuction("after reach", x, 1, 1, 4, 1, 1, 0);
        x.limit(0, 0, 0, 5);
        due("reach of a rule that says nothing", x.reach(1), 0);
        x.rule(3, 0, 0, 0);
        due("reach of the lowest bid", x.reach(5), ALL);
        due("reach(6)", x.reach(6), NO_SUCH);
        due("reach(-1)", x.reach(-1), NO_SUCH);
    }

    private static void holes() {
        BidLanguage x = told();
        due("holes with a pass", x.holes(0, NONE, 0), 0);
        due("holes with a pass, last bid 24", x.holes(0, 24, 0), 0);
        due("holes of 1 when forced", x.holes(1, NONE, 1), ALL - 1);
        due("holes of 1 when forced, last bid 23", x.holes(1, 23, 1), ALL - 1);
        due("holes of 1 when forced, last bid 24", x.holes(1, 24, 1), ALL);
        due("holes of 0 when forced, last bid 3", x.holes(0, 3, 1), 3003 + 6825);
        due("holes of 0 when forced, last bid 4", x.holes(0, 4, 1), ALL);
        x.rule(7, 0, 0, 0);
        due("holes with the lowest bid", x.holes(7, NONE, 1), 0);
        due("holes without the lowest bid", x.holes(7, 0, 1), ALL);
        x.remove(5);
        due("holes of a state without rules", x.holes(7, NONE, 0), ALL);
        due("holes(-1, 0, 0)", x.holes(-1, 0, 0), BAD_VALUE);
        due("holes(8, 0, 0)", x.holes(8, 0, 0), BAD_VALUE);
        due("holes(0, -1, 0)", x.holes(0, -1, 0), BAD_VALUE);
        due("holes(0, -7, 0)", x.holes(0, -7, 0), BAD_VALUE);
        due("holes(0, 25, 0)", x.holes(0, PASS, 0), BAD_VALUE);
        due("holes(0, 0, -1)", x.holes(0, 0, -1), BAD_VALUE);
        due("holes(0, 0, 2)", x.holes(0, 0, 2), BAD_VALUE);
    }

    private static void dueTricks(int strain, String one, String other, int want) {
        BidLanguage x = new BidLanguage();
        due("tricks " + strain + " " + one + " / " + other, x.tricks(strain, cards(one), cards(other)), want);
        due("tricks " + strain + " " + other + " / " + one, x.tricks(strain, cards(other), cards(one)), want);
    }

    private static void tricks() {
        dueTricks(4, "c43 d43 h4", "c0 d0 h0 s01", 5);
        dueTricks(4, "c4 d0 h0 s01", "c3 d1 h1 s32", 1);
        dueTricks(4, "c4 d2 h0 s01", "c32 d1 h1 s2", 2);
        dueTricks(4, "c40 d2 h0 s0", "c32 d1 h1 s2", 2);
        dueTricks(4, "c410 d2 h0", "c32 d1 h1 s2", 3);
        dueTricks(4, "c01234", "d01234", 5);
        dueTricks(4, "c0123 d0", "h0123 s0", 0);
        dueTricks(0, "c01 d012", "c2 h012 s0", 3);
        dueTricks(1, "c01 d012", "c2 h012 s0", 2);
        dueTricks(2, "c01 d012", "c2 h012 s0", 1);
        dueTricks(3, "c01 d012", "c2 h012 s0", 1);
        dueTricks(4, "c01 d012", "c2 h012 s0", 0);
        dueTricks(0, "c012 d01", "c3 d23 h01", 1);
        dueTricks(0, "c43 h012", "c21 d012", 4);
        dueTricks(0, "c4321 h0", "c0 d0123", 5);
        BidLanguage x = new BidLanguage();
        due("tricks(-1)", x.tricks(-1, 31, 992), BAD_VALUE);
        due("tricks(5)", x.tricks(5, 31, 992), BAD_VALUE);
        due("tricks of four cards", x.tricks(0, 30, 992), BAD_VALUE);
        due("tricks of six cards", x.tricks(0, 31, 992 | 1 << 15), BAD_VALUE);
        due("tricks of a card that is none", x.tricks(0, 31, 480 | 1 << 20), BAD_VALUE);
        due("tricks with a card in common", x.tricks(0, 31, 16 | 480), BAD_VALUE);
    }

    /** Partner 1 has, by its call, all of suit 1, or four of it and one of suit 2, and a strength of 10 at least. */
    private static BidLanguage nearlyKnown() {
        BidLanguage x = new BidLanguage();
        x.rule(0, 0, 1, 0);
        x.rule(1, 1, 2, 0);
        x.limit(1, 1, 4, 5);
        x.limit(1, 0, 0, 0);
        x.limit(1, 3, 0, 0);
        x.limit(1, 4, 10, 20);
        x.make(0);
        x.make(1);
        return x;
    }

    private static void expected() {
        BidLanguage x = new BidLanguage();
        due("expected with the highest trumps", x.expected(0, 0), 5 * 3003);
        x.rule(0, PASS, 0, 0);
        x.limit(0, 1, 5, 5);
        due("call() without a rule", x.call(), NONE);
        due("expected of 1, who is told little", x.expected(1, 1), 5 * 3002 + 5);
        x = new BidLanguage();
        x.rule(0, 0, 1, 0);
        x.limit(0, 2, 5, 5);
        x.make(0);
        due("expected of 1, who is told all", x.expected(1, 4), 5);
        due("expected of 0, who is told nothing", x.expected(0, 4), 5 * 3003);
        due("give", x.give(1, cards("d3210 h0")), 992);
        x.make(0);
        due("expected with no hands", x.expected(1, 0), 0);
        due("expected(2, 5)", x.expected(2, 5), NO_SUCH);
        due("expected(-1, 0)", x.expected(-1, 0), NO_SUCH);
        due("expected(0, -1)", x.expected(0, -1), BAD_VALUE);
        due("expected(0, 5)", x.expected(0, 5), BAD_VALUE);
        expectedSum();
    }

    private static void expectedSum() {
        BidLanguage x = nearlyKnown();
        int own = 31;
        for (int strain = 0; strain < 5; strain++) {
            long sum = 0;
            int count = 0;
            for (int missing = 5; missing < 10; missing++) {
                for (int card = 10; card < 15; card++) {
                    int other = 992 - (1 << missing) + (1 << card);
                    int strength = 10 - missing % 5 + card % 5;
                    if (strength >= 10) {
                        sum += x.tricks(strain, own, other);
                        count++;
                    }
                }
            }
            sum += x.tricks(strain, own, 992);
            count++;
            due("hands", x.hands(1, own), count);
            due("expected(0, " + strain + ")", x.expected(0, strain), sum);
        }
    }

    private static void contract() {
        BidLanguage x = new BidLanguage();
        due("contract with all of suit 0, of all strains", x.contract(0), 24);
        x.rule(0, 0, 1, 0);
        x.limit(0, 2, 5, 5);
        x.give(0, 31 << 10);
        x.give(1, cards("c3210 d3"));
        x.make(0);
        due("contract with what is told", x.contract(1), 24);
        due("give", x.give(0, 31 << 15), 31 << 10);
        due("give", x.give(1, cards("c3210 h4")), cards("c3210 d3"));
        x.make(0);
        due("contract with no hands", x.contract(1), NONE);
        contractOfFew();
        contractOfSuit();
        contractOfNothing();
        due("contract(2)", x.contract(2), NO_SUCH);
        due("contract(-1)", x.contract(-1), NO_SUCH);
    }

    private static void contractOfFew() {
        BidLanguage x = nearlyKnown();
        x.give(0, cards("c01 h01 s0"));
        x.make(0);
        x.make(1);
        due("hands", x.hands(1, x.hand(0, 0)), 13);
        due("expected(0, 1)", x.expected(0, 1), 58);
        due("expected(0, 2)", x.expected(0, 2), 63);
        due("contract of few", x.contract(0), 17);
    }

    /** Only the lowest suit lets both partners ruff. */
    private static void contractOfSuit() {
        BidLanguage x = new BidLanguage();
        x.rule(0, 0, 1, 0);
        x.limit(0, 0, 2, 2);
        x.limit(0, 1, 3, 3);
        x.limit(0, 4, 4, 4);
        due("give", x.give(1, cards("s01234")), 992);
        due("give", x.give(0, cards("c01 d012")), 31);
        due("give", x.give(1, cards("c23 h013")), cards("s01234"));
        x.make(0);
        due("hands", x.hands(0, x.hand(1, 0)), 1);
        due("expected(1, 0)", x.expected(1, 0), 2);
        due("expected(1, 1)", x.expected(1, 1), 1);
        due("contract", x.contract(1), 5);
    }

    /** Hands with no highest card, alike in their lengths: no tricks at all. Then with all cards: 400 by 192 hands. */
    private static void contractOfNothing() {
        BidLanguage x = new BidLanguage();
        x.rule(0, 0, 1, 0);
        x.limit(0, 0, 2, 2);
        x.limit(0, 1, 1, 1);
        x.limit(0, 2, 1, 1);
        x.limit(0, 3, 1, 1);
        x.limit(0, 4, 1, 2);
        due("give", x.give(0, cards("c01 h012")), 31);
        due("give", x.give(1, cards("c32 d3 h3 s3")), 992);
        due("give", x.give(0, cards("c01 d0 h0 s0")), cards("c01 h012"));
        x.make(0);
        due("hands without tricks", x.hands(0, x.hand(1, 0)), 4);
        due("expected of nothing", x.expected(1, 4), 0);
        due("contract of nothing", x.contract(1), NONE);
        x.limit(0, 4, 1, 20);
        x.make(0);
        due("hands", x.hands(0, x.hand(1, 0)), 192);
        for (int strain = 0; strain < 5; strain++) {
            due("expected(1, " + strain + ")", x.expected(1, strain), 400);
        }
        due("contract that is rounded down", x.contract(1), 9);
    }

    private static void put() {
        BidLanguage x = new BidLanguage();
        due("put(0)", x.put(0), BAD_VALUE);
        due("put(32)", x.put(32), BAD_VALUE);
        due("put(127)", x.put(127), BAD_VALUE);
        due("put(33)", x.put(33), 1);
        due("put(126)", x.put(126), 2);
        due("put of a zero at last", x.put(0x4100L), BAD_VALUE);
        due("put of a zero between", x.put(0x410041L), BAD_VALUE);
        due("put of a bit far above a zero", x.put(0x4000000000000041L), BAD_VALUE);
        due("put of a blank before", x.put(0x2041L), BAD_VALUE);
        due("put of a sign above 127", x.put(0xC141414141414141L), BAD_VALUE);
        due("put(-1)", x.put(-1), BAD_VALUE);
        due("put of 127 as the first of eight", x.put(0x7F41414141414141L), BAD_VALUE);
        due("put of eight", x.put(0x7E21212121212121L), 10);
        due("put of two", x.put(0x2121L), 12);
        for (int i = 2; i <= 7; i++) {
            due("put of eight", x.put(packed("aaaaaaaa")), 8 * i + 4);
        }
        due("put of one more than 60", x.put('a'), TOO_MANY);
        due("put of 8 more than 60", x.put(packed("aaaaaaaa")), TOO_MANY);
        due("put of a blank when the pad is full", x.put(' '), BAD_VALUE);
        due("the pad", x.state(7), 60);
        x.wipe();
        for (int i = 1; i <= 7; i++) {
            x.put(packed("aaaaaaaa"));
        }
        due("put that is too long", x.put(packed("aaaaa")), TOO_MANY);
        due("put that is not", x.put(packed("aaaa")), 60);
        BidLanguage y = new BidLanguage();
        y.put(packed("3:4h>"));
        y.put(packed("1!"));
        due("load of what was put", y.load(), 0);
        dueParts(y, 0, 3, 17, 1, 1);
        BidLanguage z = inAuction();
        z.put('a');
        dueGoesOn("put", z);
    }

    private static void wipe() {
        BidLanguage x = new BidLanguage();
        due("wipe() of nothing", x.wipe(), 0);
        x.put(packed("abc"));
        due("wipe()", x.wipe(), 3);
        due("the pad", x.state(7), 0);
        due("fault of the empty pad", x.fault(), 0);
        due("put after wipe", x.put('a'), 1);
    }

    private static void faultOfHead() {
        dueFault("", 0);
        dueFault("0", 1);
        dueFault("0:", 2);
        dueFault("0:p", 3);
        dueFault("0:p>", 4);
        dueFault("0:p>7", NONE);
        dueFault("7:5n>0!", NONE);
        dueFault("8:p>0", 0);
        dueFault("x", 0);
        dueFault("00", 1);
        dueFault("0;p>0", 1);
        dueFault("0:P>0", 2);
        dueFault("0:0c>0", 2);
        dueFault("0:6c>0", 2);
        dueFault("0:1", 3);
        dueFault("0:1p>0", 3);
        dueFault("0:1+>0", 3);
        dueFault("0:1N>0", 3);
        dueFault("0:pc>0", 3);
        dueFault("0:1c", 4);
        dueFault("0:1c<0", 4);
        dueFault("0:1c>8", 5);
        dueFault("0:1c>01", 6);
        dueFault("0:1c>0!!", 7);
        dueFault("0:1c>0.", 6);
        dueFault("0:1c>!", 5);
        dueFault("/:1c>0", 0);
        dueFault(":1c>0", 0);
        dueFault("0:/c>0", 2);
        dueFault("0:1c>/", 5);
    }

    private static void faultOfConditions() {
        dueFault("0:p>0,", 6);
        dueFault("0:p>0!,", 7);
        dueFault("0:p>0,!", 6);
        dueFault("0:p>0,n1-2", 6);
        dueFault("0:p>0,p1-2", 6);
        dueFault("0:p>0,,", 6);
        dueFault("0:p>0,c", 7);
        dueFault("0:p>0,c1", 8);
        dueFault("0:p>0,c1-", 9);
        dueFault("0:p>0,c1-1", NONE);
        dueFault("0:p>0,s0-5", NONE);
        dueFault("0:p>0,c6-6", 7);
        dueFault("0:p>0,c-1", 7);
        dueFault("0:p>0,c10-2", 8);
        dueFault("0:p>0,c00-2", 8);
        dueFault("0:p>0,c1,c", 8);
        dueFault("0:p>0,c1-6", 9);
        dueFault("0:p>0,c1--", 9);
        dueFault("0:p>0,c1-15", 10);
        dueFault("0:p>0,c2-15", 9);
        dueFault("0:p>0,c3-2", 9);
        dueFault("0:p>0,c3-2,", 9);
        dueFault("0:p>0,c0-00", 10);
        dueFault("0:p>0,c1-0", 9);
        dueFault("0:p>0,c1-2!", 10);
        dueFault("0:p>0,c1-2c", 10);
        dueFault("0:p>0,c1-2,c", 11);
        dueFault("0:p>0,c1-2,d1-2,c", 16);
        dueFault("0:p>0,c1-2,d1-2,h", 17);
        dueFault("0:p>0,+1-2,+", 11);
        dueFault("0:p>0,s1-2,h1-2,+1-2,d1-2,c1-2", NONE);
        dueFault("0:p>0,s1-2,h1-2,+1-2,d1-2,c1-2,", 31);
        dueFault("0:p>0,s1-2,h1-2,+1-2,d1-2,c1-2,h", 31);
    }

    private static void faultOfStrength() {
        dueFault("0:p>0,+0-20", NONE);
        dueFault("0:p>0,+20-20", NONE);
        dueFault("0:p>0,+9-10", NONE);
        dueFault("0:p>0,+19-20", NONE);
        dueFault("0:p>0,+0-0", NONE);
        dueFault("0:p>0,+21-22", 8);
        dueFault("0:p>0,+30", 8);
        dueFault("0:p>0,+05-9", 8);
        dueFault("0:p>0,+1:", 8);
        dueFault("0:p>0,+/", 7);
        dueFault("0:p>0,+:", 7);
        dueFault("0:p>0,+1/", 8);
        dueFault("0:p>0,+1-/", 9);
        dueFault("0:p>0,+1-1/", 10);
        dueFault("0:p>0,+200", 9);
        dueFault("0:p>0,+1-21", 10);
        dueFault("0:p>0,+1-200", 11);
        dueFault("0:p>0,+1-100", 11);
        dueFault("0:p>0,+1-30", 10);
        dueFault("0:p>0,+10-9", 10);
        dueFault("0:p>0,+10-1", 10);
        dueFault("0:p>0,+10-1,", 10);
        dueFault("0:p>0,+10-1x", 10);
        dueFault("0:p>0,+10-10", NONE);
        dueFault("0:p>0,+10-25", 10);
        dueFault("0:p>0,+15-14", 11);
        dueFault("0:p>0,+15-14,", 11);
        dueFault("0:p>0,+15-149", 11);
        dueFault("0:p>0,+15-159", 12);
        dueFault("0:p>0,+5-05", 9);
        dueFault("0:p>0,+0-05", 10);
    }

    private static void load() {
        BidLanguage x = new BidLanguage();
        write(x, "3:2s>4!,+10-15,c1-2,d0-5,h2-2,s3-5");
        due("load()", x.load(), 0);
        dueParts(x, 0, 3, 8, 4, 1, 1, 2, 0, 5, 2, 2, 3, 5, 10, 15);
        due("the pad", x.state(7), 0);
        due("load() of the empty pad", x.load(), BAD_TEXT);
        String calls = "1c1d1h1s1n5c5n";
        int[] numbers = {0, 1, 2, 3, 4, 20, 24};
        for (int i = 0; i < 7; i++) {
            write(x, "5:" + calls.substring(2 * i, 2 * i + 2) + ">0");
            due("load()", x.load(), i + 1);
            due("the call", x.part(i + 1, 1), numbers[i]);
        }
        write(x, "5:p>7");
        due("load()", x.load(), 8);
        dueParts(x, 8, 5, PASS, 7, 0, 0, 5, 0, 5, 0, 5, 0, 5, 0, 20);
        write(x, "5:p>1!");
        due("load() of a call that is there", x.load(), NOT_POSSIBLE);
        due("the pad then", x.state(7), 6);
        due("rules then", x.state(6), 9);
        loadIntoMany();
    }

    private static void loadIntoMany() {
        BidLanguage full = new BidLanguage();
        fill(full, 24);
        write(full, "0:1c>0");
        due("load() of rule 24", full.load(), TOO_MANY);
        due("the pad then", full.state(7), 6);
        full.put(',');
        due("load() of a fault", full.load(), BAD_TEXT);
        due("the pad then", full.state(7), 7);
        BidLanguage y = inAuction();
        write(y, "0:1s>0");
        y.fault();
        due("load() of a call that is there", y.load(), NOT_POSSIBLE);
        dueGoesOn("a load that failed", y);
        write(y, "0:1n>0");
        due("load()", y.load(), 2);
        dueAnew("load", y);
        due("limits of a rule that was loaded", y.limit(2, 0, 5, 5), 1);
    }

    private static void constants() {
        due("NO_SUCH", BidLanguage.NO_SUCH, -1);
        due("BAD_VALUE", BidLanguage.BAD_VALUE, -2);
        due("BAD_TEXT", BidLanguage.BAD_TEXT, -3);
        due("TOO_MANY", BidLanguage.TOO_MANY, -4);
        due("NOT_POSSIBLE", BidLanguage.NOT_POSSIBLE, -5);
        due("NONE", BidLanguage.NONE, -6);
        due("PASS", BidLanguage.PASS, 25);
    }

    public static void main(String[] args) {
        constants();
        newObject();
        rule();
        limit();
        remove();
        move();
        part();
        give();
        draw();
        hand();
        begin();
        call();
        make();
        back();
        made();
        state();
        hands();
        shown();
        fits();
        ruleOf();
        reach();
        holes();
        tricks();
        expected();
        contract();
        put();
        wipe();
        faultOfHead();
        faultOfConditions();
        faultOfStrength();
        load();
        finish("PromiseTest");
    }
}
