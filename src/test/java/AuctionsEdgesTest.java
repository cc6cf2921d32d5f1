/** Promises 10 to 15: the auctions. */
public final class AuctionsEdgesTest extends Checks {

    private static void beginEdges() {
        sentence("Promise 10: returns the number of calls that there were, 0 to 12", x -> {
            due("none", x.begin(), 0);
            x.rule(0, 0, 0, 0);
            makeAll(x, 0);
            due("one", x.begin(), 1);
            due("none again", x.begin(), 0);
            due("two, the last one a pass", passed().begin(), 2);
            due("twelve", twelve().begin(), 12);
        });
        sentence("Promise 10: begins anew also if the auction is stuck, over or forced", unused -> {
            for (BidLanguage x : new BidLanguage[] {busy(), stuck(), passed(), twelve()}) {
                x.begin();
                dueAnew("begin()", x);
            }
            due("the stuck one has one call", stuck().begin(), 1);
        });
        sentence("Promise 10: rules, hands and the pad stay", unused -> {
            BidLanguage x = busy();
            x.begin();
            dueCalls(x, 3, 9, 12, PASS);
            due("hand of 0", x.hand(0, 0), 31 << 15);
            due("hand of 1", x.hand(1, 0), 31 << 10);
            due("the pad", x.state(7), 6);
            makeAll(x, 3, 9, 12);
        });
    }

    private static void callEdges() {
        sentence("Promise 11: the partner whose turn it is calls by the rule of its own hand", x -> {
            x.rule(0, 0, 0, 0);
            x.limit(0, 1, 5, 5);
            x.rule(0, 1, 0, 0);
            x.limit(1, 0, 5, 5);
            x.rule(0, 2, 0, 0);
            x.limit(2, 0, 5, 5);
            x.rule(0, 3, 0, 0);
            due("0 with suit 0", x.call(), 1);
            due("1 with suit 1, but 0 is not open", x.call(), 3);
            due("0 has no open rule", x.call(), NONE);
        });
        sentence("Promise 11: returns the call, 0 to PASS", x -> {
            x.rule(0, 0, 1, 0);
            x.rule(1, 24, 2, 0);
            x.rule(2, PASS, 0, 0);
            due("0", x.call(), 0);
            due("24", x.call(), 24);
            due("PASS", x.call(), PASS);
        });
        sentence("Promise 11: NOT_POSSIBLE if the auction is over by a pass", unused -> {
            due("call()", passed().call(), NOT_POSSIBLE);
        });
        sentence("Promise 11: NOT_POSSIBLE if the auction is over with 12 calls, not with 11", unused -> {
            BidLanguage x = twelve();
            due("with 12", x.call(), NOT_POSSIBLE);
            x.back();
            due("with 11", x.call(), 12);
            due("with 12 again", x.call(), NOT_POSSIBLE);
        });
        sentence("Promise 11: NOT_POSSIBLE if the auction is stuck", x -> {
            due("the first call()", x.call(), NONE);
            due("the second call()", x.call(), NOT_POSSIBLE);
            x.back();
            due("call() behind back()", x.call(), NONE);
        });
        sentence("Promise 11: NONE if the hand has no rule, then the auction is stuck", x -> {
            x.rule(0, 7, 0, 1);
            x.limit(0, 0, 5, 5);
            x.rule(0, PASS, 0, 0);
            x.rule(1, 9, 0, 0);
            due("call() of 0", x.call(), 7);
            due("1 has none, neither of a lower bid, nor a pass when forced", x.call(), NONE);
            dueAuction("then", x, 1, 0, 7, 1, 1, 2);
        });
    }

    private static void makeEdges() {
        sentence("Promise 12: BAD_VALUE if it is no call", x -> {
            x.rule(0, 0, 0, 0);
            x.rule(0, PASS, 0, 0);
            for (int bad : new int[] {-1, 26, NONE, LEAST_INT, GREATEST_INT}) {
                due("make(" + bad + ")", x.make(bad), BAD_VALUE);
            }
            due("make(0)", x.make(0), 1);
            due("make(PASS)", x.make(PASS), 2);
        });
        sentence("Promise 12: makes a call whatever the hand is", x -> {
            x.rule(0, 0, 1, 0);
            x.limit(0, 4, 20, 20);
            due("no hand fits", x.reach(0), 0);
            due("make(0)", x.make(0), 1);
            due("its rule", x.made(0, 1), 0);
        });
        sentence("Promise 12: by the open rule with this call, also behind one of another state", x -> {
            x.rule(3, 5, 0, 0);
            x.rule(0, 5, 3, 0);
            x.rule(3, 6, 0, 0);
            makeAll(x, 5);
            due("its rule", x.made(0, 1), 1);
            due("the state", x.state(1), 3);
        });
        sentence("Promise 12: returns the number of calls then, 1 to 12", unused -> {
            BidLanguage x = twelve();
            x.begin();
            makeAll(x, 2, 3, 4, 5, 6, 7, 8, 9, 10, 11, 12, 13);
        });
        sentence("Promise 12: NOT_POSSIBLE if there is no such open rule", x -> {
            x.rule(0, 5, 1, 1);
            x.rule(1, PASS, 0, 0);
            x.rule(1, 5, 0, 0);
            x.rule(0, 6, 0, 0);
            due("no rule", x.make(7), NOT_POSSIBLE);
            due("a rule of another state", x.make(PASS), NOT_POSSIBLE);
            makeAll(x, 5);
            due("a bid that is not greater", x.make(5), NOT_POSSIBLE);
            due("a pass when forced", x.make(PASS), NOT_POSSIBLE);
            due("a rule of the state before", x.make(6), NOT_POSSIBLE);
        });
        sentence("Promise 12: NOT_POSSIBLE if the auction is over by a pass", x -> {
            x.rule(0, PASS, 0, 0);
            x.rule(0, 9, 0, 0);
            makeAll(x, PASS);
            due("make(9)", x.make(9), NOT_POSSIBLE);
            due("make(PASS)", x.make(PASS), NOT_POSSIBLE);
        });
        sentence("Promise 12: NOT_POSSIBLE if the auction is over with 12 calls, not with 11", unused -> {
            BidLanguage x = twelve();
            due("with 12", x.make(13), NOT_POSSIBLE);
            x.back();
            due("with 11", x.make(13), 12);
        });
        sentence("Promise 12: NOT_POSSIBLE if the auction is stuck", unused -> {
            BidLanguage x = stuck();
            due("when it is stuck", x.make(9), NOT_POSSIBLE);
            x.back();
            due("when it is not", x.make(9), 2);
        });
    }

    private static void backEdges() {
        sentence("Promise 13: NOT_POSSIBLE if there are no calls and the auction is not stuck", x -> {
            due("back() of a new object", x.back(), NOT_POSSIBLE);
            x.rule(0, 0, 0, 0);
            makeAll(x, 0);
            due("back() of one call", x.back(), 0);
            due("back() of none", x.back(), NOT_POSSIBLE);
        });
        sentence("Promise 13: takes back a bid: state, last bid, forced and turn are as before it", x -> {
            x.rule(0, 4, 3, 1);
            x.rule(3, 9, 5, 0);
            makeAll(x, 4, 9);
            due("back() of the second one", x.back(), 1);
            dueAuction("then", x, 1, 3, 4, 1, 1, 0);
            due("made", x.made(1, 0), NONE);
            due("back() of the first one", x.back(), 0);
            dueAnew("back() of all", x);
        });
        sentence("Promise 13: takes back a pass: the auction goes on", unused -> {
            BidLanguage x = passed();
            due("back()", x.back(), 1);
            dueAuction("then", x, 1, 1, 3, 0, 1, 0);
            due("the pass again", x.make(PASS), 2);
        });
        sentence("Promise 13: takes back the call 11 of 12: the auction goes on", unused -> {
            BidLanguage x = twelve();
            due("back()", x.back(), 11);
            dueAuction("then", x, 11, 0, 11, 0, 1, 0);
            for (int left = 10; left >= 0; left--) {
                due("back()", x.back(), left);
            }
            due("back() of none", x.back(), NOT_POSSIBLE);
        });
        sentence("Promise 13: if the auction is stuck, it is not any more, and no call is taken back", unused -> {
            BidLanguage x = stuck();
            due("back()", x.back(), 1);
            dueAuction("then", x, 1, 1, 3, 1, 1, 0);
            due("the call that stays", x.made(0, 0), 3);
            due("back() again", x.back(), 0);
            due("back() of none", x.back(), NOT_POSSIBLE);
        });
        sentence("Promise 13: if it is stuck without calls, back() returns 0", x -> {
            due("call()", x.call(), NONE);
            due("back()", x.back(), 0);
            dueAnew("back()", x);
            due("back() again", x.back(), NOT_POSSIBLE);
        });
    }

    private static void madeEdges() {
        sentence("Promise 14: 0 the call, 1 its rule, 2 the state in which it was made, 3 whether forced", x -> {
            x.rule(7, PASS, 3, 0);
            x.rule(5, 24, 7, 0);
            x.rule(0, 0, 5, 1);
            makeAll(x, 0, 24, PASS);
            int[][] want = {{0, 2, 0, 0}, {24, 1, 5, 1}, {PASS, 0, 7, 0}};
            for (int index = 0; index < 3; index++) {
                for (int what = 0; what < 4; what++) {
                    due("made(" + index + ", " + what + ")", x.made(index, what), want[index][what]);
                }
            }
        });
        sentence("Promise 14: BAD_VALUE if what is out of range", unused -> {
            BidLanguage x = passed();
            for (int bad : new int[] {-1, 4, LEAST_INT, GREATEST_INT}) {
                due("made(0, " + bad + ")", x.made(0, bad), BAD_VALUE);
            }
        });
        sentence("Promise 14: NONE if there is no such call", unused -> {
            BidLanguage x = passed();
            due("the last call", x.made(1, 0), PASS);
            for (int bad : new int[] {-1, 2, LEAST_INT, GREATEST_INT}) {
                due("made(" + bad + ", 0)", x.made(bad, 0), NONE);
            }
            BidLanguage twelve = twelve();
            due("the last one of 12", twelve.made(11, 0), 12);
            due("the one behind", twelve.made(12, 0), NONE);
        });
        sentence("Promise 14: being stuck is no call", unused -> {
            BidLanguage x = stuck();
            due("the last call", x.made(0, 0), 3);
            for (int what = 0; what < 4; what++) {
                due("made(1, " + what + ")", x.made(1, what), NONE);
            }
        });
        sentence("Promise 14: a call that is made again has its new numbers", x -> {
            x.rule(0, 0, 0, 1);
            x.rule(0, 1, 0, 0);
            x.rule(0, 2, 0, 0);
            makeAll(x, 0, 1);
            due("forced", x.made(1, 3), 1);
            x.back();
            x.back();
            makeAll(x, 1, 2);
            due("the call", x.made(1, 0), 2);
            due("not forced", x.made(1, 3), 0);
        });
    }

    private static void stateEdges() {
        sentence("Promise 15: BAD_VALUE if what is out of range", x -> {
            due("7", x.state(7), 0);
            for (int bad : new int[] {-1, 8, LEAST_INT, GREATEST_INT}) {
                due("state(" + bad + ")", x.state(bad), BAD_VALUE);
            }
        });
        sentence("Promise 15: 0 the number of calls, 0 to 12", x -> {
            due("none", x.state(0), 0);
            due("12", twelve().state(0), 12);
            due("being stuck is none", stuck().state(0), 1);
        });
        sentence("Promise 15: 1 the state, 0 to 7", x -> {
            due("at first", x.state(1), 0);
            x.rule(0, 0, 7, 0);
            makeAll(x, 0);
            due("7", x.state(1), 7);
        });
        sentence("Promise 15: 2 the last bid, NONE if there is none", x -> {
            due("at first", x.state(2), NONE);
            x.rule(0, 0, 0, 0);
            x.rule(0, 24, 0, 0);
            makeAll(x, 0);
            due("0", x.state(2), 0);
            x.make(24);
            due("24", x.state(2), 24);
        });
        sentence("Promise 15: 4 the partner whose turn it is, the number of calls mod 2", unused -> {
            due("stuck with one call", stuck().state(4), 1);
            due("over with two calls", passed().state(4), 0);
            due("over with 12 calls", twelve().state(4), 0);
        });
        sentence("Promise 15: 5 is 0 if it goes on, 1 if it is over, 2 if it is stuck", x -> {
            due("goes on", x.state(5), 0);
            due("over by a pass", passed().state(5), 1);
            due("over with 12 calls", twelve().state(5), 1);
            due("stuck", stuck().state(5), 2);
        });
        sentence("Promise 15: 6 the number of rules, 0 to 24", x -> {
            due("none", x.state(6), 0);
            fill(x, 24);
            due("all", x.state(6), 24);
        });
        sentence("Promise 15: 7 the length of the pad, 0 to 60", x -> {
            due("empty", x.state(7), 0);
            write(x, "aaaaaaaabbbbbbbbccccccccddddddddeeeeeeeeffffffffgggggggghhhh");
            due("full", x.state(7), 60);
        });
        sentence("Promise 15: 1 to 4 also if it is over", x -> {
            dueAuction("over by a pass", passed(), 2, 1, 3, 0, 0, 1);
            dueAuction("stuck when forced", stuck(), 1, 1, 3, 1, 1, 2);
            for (int bid = 0; bid < 12; bid++) {
                x.rule(0, 2 * bid, 0, bid / 11);
            }
            for (int bid = 0; bid < 12; bid++) {
                due("make", x.make(2 * bid), bid + 1);
            }
            dueAuction("over with 12 calls, the last one forces", x, 12, 0, 22, 1, 0, 1);
        });
    }

    public static void main(String[] args) {
        beginEdges();
        callEdges();
        makeEdges();
        backEdges();
        madeEdges();
        stateEdges();
        finish("AuctionsEdgesTest");
    }
}
