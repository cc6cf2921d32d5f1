/** Promises 1 to 6: a new object, and the rules. */
public final class RulesEdgesTest extends Checks {

    private static void newObject() {
        sentence("Promise 1: a workshop without rules", x -> {
            due("rules", x.state(6), 0);
            due("part", x.part(0, 0), NO_SUCH);
            due("remove", x.remove(0), NO_SUCH);
            due("a hand has no rule", x.ruleOf(31), NONE);
        });
        sentence("Promise 1: nothing has been called", x -> {
            dueAnew("the constructor", x);
            due("back()", x.back(), NOT_POSSIBLE);
            due("begin()", x.begin(), 0);
            due("the pad", x.state(7), 0);
            due("wipe()", x.wipe(), 0);
        });
        sentence("Promise 1: what is done with one object does not show in another", x -> {
            BidLanguage other = new BidLanguage();
            x.rule(0, 0, 1, 1);
            x.draw(5);
            x.call();
            write(x, "0:1c>0");
            due("rules", other.state(6), 0);
            due("hand", other.hand(0, 0), 31);
            due("fault", other.fault(), 0);
            dueAnew("calls of another object", other);
            dueAnew("the constructor", new BidLanguage());
        });
    }

    // ---- promise 2

    private static void ruleArguments() {
        sentence("Promise 2: state is 0 to 7", x -> {
            due("0", x.rule(0, 0, 0, 0), 0);
            due("7", x.rule(7, 0, 0, 0), 1);
            dueParts(x, 0, 0);
            dueParts(x, 1, 7);
            for (int bad : new int[] {-1, 8, LEAST_INT, GREATEST_INT}) {
                due("state " + bad, x.rule(bad, 1, 0, 0), BAD_VALUE);
            }
        });
        sentence("Promise 2: call is 0 to 24, or PASS", x -> {
            due("0", x.rule(0, 0, 0, 0), 0);
            due("24", x.rule(0, 24, 0, 0), 1);
            due("PASS", x.rule(0, PASS, 0, 0), 2);
            dueCalls(x, 0, 24, PASS);
            for (int bad : new int[] {-1, 26, NONE, LEAST_INT, GREATEST_INT}) {
                due("call " + bad, x.rule(0, bad, 0, 0), BAD_VALUE);
            }
        });
        sentence("Promise 2: next is 0 to 7", x -> {
            due("0", x.rule(1, 0, 0, 0), 0);
            due("7", x.rule(1, 1, 7, 0), 1);
            dueParts(x, 0, 1, 0, 0);
            dueParts(x, 1, 1, 1, 7);
            for (int bad : new int[] {-1, 8, LEAST_INT, GREATEST_INT}) {
                due("next " + bad, x.rule(0, 2, bad, 0), BAD_VALUE);
            }
        });
        sentence("Promise 2: force is 1 if it forces, 0 if not", x -> {
            due("0", x.rule(0, 0, 0, 0), 0);
            due("1", x.rule(0, 1, 0, 1), 1);
            due("part 3 of the first", x.part(0, 3), 0);
            due("part 3 of the second", x.part(1, 3), 1);
            for (int bad : new int[] {-1, 2, LEAST_INT, GREATEST_INT}) {
                due("force " + bad, x.rule(0, 2, 0, bad), BAD_VALUE);
            }
        });
    }

    private static void ruleAnswers() {
        sentence("Promise 2: adds a rule behind all others, returns its number", x -> {
            due("with no rule", x.rule(0, 9, 0, 0), 0);
            due("with one", x.rule(0, 3, 0, 0), 1);
            x.remove(0);
            due("with one, behind a remove", x.rule(0, 1, 0, 0), 1);
            dueCalls(x, 3, 1);
        });
        sentence("Promise 2: TOO_MANY if there are 24 rules, not with 23", x -> {
            fill(x, 23);
            due("rule 23", x.rule(7, 24, 0, 0), 23);
            due("rule 24", x.rule(7, 23, 0, 0), TOO_MANY);
            due("remove", x.remove(0), 23);
            due("rule 23 again", x.rule(7, 23, 0, 0), 23);
            due("rule 24 again", x.rule(7, 22, 0, 0), TOO_MANY);
        });
        sentence("Promise 2: NOT_POSSIBLE if a rule of this state has this call, the first or the last one", x -> {
            x.rule(2, 0, 0, 0);
            x.rule(3, 5, 0, 0);
            x.rule(4, PASS, 0, 0);
            due("of the first rule", x.rule(2, 0, 7, 1), NOT_POSSIBLE);
            due("of the last rule", x.rule(4, PASS, 7, 1), NOT_POSSIBLE);
            due("the state of one, the call of another", x.rule(2, PASS, 0, 0), 3);
        });
        sentence("Promise 2: the call of a rule that was removed is free again", x -> {
            x.rule(2, 0, 0, 0);
            x.remove(0);
            due("again", x.rule(2, 0, 0, 0), 0);
        });
        sentence("Promise 2: a rule has no ranges of a rule that was removed", x -> {
            x.rule(2, 0, 0, 0);
            x.limit(0, 4, 3, 3);
            x.remove(0);
            x.rule(2, 0, 0, 0);
            dueParts(x, 0, 2, 0, 0, 0, 0, 5, 0, 5, 0, 5, 0, 5, 0, 20);
        });
    }

    // ---- promise 3

    private static void limitArguments() {
        sentence("Promise 3: what is 0 to 3 for the suits, 4 for the strength", x -> {
            x.rule(0, 0, 0, 0);
            for (int what = 0; what < 5; what++) {
                x.limit(0, what, what, 5);
                due("least of " + what, x.part(0, 4 + 2 * what), what);
                due("greatest of " + what, x.part(0, 5 + 2 * what), 5);
            }
            for (int bad : new int[] {-1, 5, LEAST_INT, GREATEST_INT}) {
                due("what " + bad, x.limit(0, bad, 1, 2), BAD_VALUE);
            }
        });
        sentence("Promise 3: low is 0 to 5 for a suit", x -> {
            x.rule(0, 0, 0, 0);
            for (int suit = 0; suit < 4; suit++) {
                due("5", x.limit(0, suit, 5, 5), 1);
                due("0", x.limit(0, suit, 0, 5), ALL);
                for (int bad : new int[] {-1, 6, LEAST_INT, GREATEST_INT}) {
                    due("low " + bad, x.limit(0, suit, bad, 5), BAD_VALUE);
                    due("low and high " + bad, x.limit(0, suit, bad, bad), BAD_VALUE);
                }
            }
        });
        sentence("Promise 3: low is 0 to 20 for the strength", x -> {
            x.rule(0, 0, 0, 0);
            due("20", x.limit(0, 4, 20, 20), 0);
            due("0", x.limit(0, 4, 0, 20), ALL);
            for (int bad : new int[] {-1, 21, LEAST_INT, GREATEST_INT}) {
                due("low " + bad, x.limit(0, 4, bad, 20), BAD_VALUE);
                due("low and high " + bad, x.limit(0, 4, bad, bad), BAD_VALUE);
            }
        });
        sentence("Promise 3: high is low to 5 for a suit", x -> {
            x.rule(0, 0, 0, 0);
            for (int suit = 0; suit < 4; suit++) {
                due("high as low", x.limit(0, suit, 3, 3), OF_LENGTH[3]);
                due("high below low", x.limit(0, suit, 3, 2), BAD_VALUE);
                due("high 6", x.limit(0, suit, 3, 6), BAD_VALUE);
                due("the greatest high", x.limit(0, suit, 3, GREATEST_INT), BAD_VALUE);
                due("the least high", x.limit(0, suit, 0, LEAST_INT), BAD_VALUE);
                due("high -1", x.limit(0, suit, 0, -1), BAD_VALUE);
                due("high 0", x.limit(0, suit, 0, 0), OF_LENGTH[0]);
                due("high 5", x.limit(0, suit, 0, 5), ALL);
            }
        });
        sentence("Promise 3: high is low to 20 for the strength", x -> {
            x.rule(0, 0, 0, 0);
            due("high as low", x.limit(0, 4, 19, 19), 4);
            due("high below low", x.limit(0, 4, 19, 18), BAD_VALUE);
            due("high 21", x.limit(0, 4, 19, 21), BAD_VALUE);
            due("the greatest high", x.limit(0, 4, 19, GREATEST_INT), BAD_VALUE);
            due("high -1", x.limit(0, 4, 0, -1), BAD_VALUE);
            due("high 6", x.limit(0, 4, 6, 6) > 0 ? 1 : 0, 1);
            due("high 20", x.limit(0, 4, 0, 20), ALL);
        });
        sentence("Promise 3: NO_SUCH if there is no such rule", x -> {
            due("no rules", x.limit(0, 0, 0, 5), NO_SUCH);
            fill(x, 2);
            due("the last rule", x.limit(1, 0, 5, 5), 1);
            for (int bad : new int[] {-1, 2, LEAST_INT, GREATEST_INT}) {
                due("rule " + bad, x.limit(bad, 0, 0, 5), NO_SUCH);
            }
        });
    }

    private static void limitAnswers() {
        sentence("Promise 3: returns the number of hands of all 15504 that fit then, 15504 to 0", x -> {
            x.rule(0, 0, 0, 0);
            due("all", x.limit(0, 0, 0, 5), ALL);
            due("at least one", x.limit(0, 0, 1, 5), ALL - OF_LENGTH[0]);
            due("one hand", x.limit(0, 0, 5, 5), 1);
            due("one hand, by its strength", x.limit(0, 4, 10, 10), 1);
            due("no hand", x.limit(0, 4, 11, 20), 0);
        });
        sentence("Promise 3: the hands are counted whatever the other rules and the hands of the partners are", x -> {
            x.rule(0, 0, 0, 0);
            x.rule(0, 1, 0, 0);
            x.limit(0, 0, 5, 5);
            due("another rule has ranges", x.limit(1, 1, 5, 5), 1);
            due("another rule comes before", x.limit(1, 1, 0, 5), ALL);
        });
        sentence("Promise 3: changes one range of one rule, wider or narrower", x -> {
            fill(x, 3);
            x.limit(1, 2, 3, 4);
            dueParts(x, 1, 1, 0, 0, 0, 0, 5, 0, 5, 3, 4, 0, 5, 0, 20);
            x.limit(1, 2, 1, 5);
            dueParts(x, 1, 1, 0, 0, 0, 0, 5, 0, 5, 1, 5, 0, 5, 0, 20);
            x.limit(1, 4, 20, 20);
            x.limit(1, 3, 0, 0);
            dueParts(x, 1, 1, 0, 0, 0, 0, 5, 0, 5, 1, 5, 0, 0, 20, 20);
            dueParts(x, 0, 0, 0, 0, 0, 0, 5, 0, 5, 0, 5, 0, 5, 0, 20);
            dueParts(x, 2, 2, 0, 0, 0, 0, 5, 0, 5, 0, 5, 0, 5, 0, 20);
        });
    }

    // ---- promises 4 to 6

    private static void removeEdges() {
        sentence("Promise 4: the numbers of the rules behind decrease by 1, of the first rule", x -> {
            dueRemoved(x, 0, 11, 12, 13);
        });
        sentence("Promise 4: the numbers of the rules behind decrease by 1, of one in the middle", x -> {
            dueRemoved(x, 2, 10, 11, 13);
        });
        sentence("Promise 4: the numbers of the rules behind decrease by 1, of the last rule", x -> {
            dueRemoved(x, 3, 10, 11, 12);
        });
        sentence("Promise 4: returns the number of rules that are left, 23 to 0", x -> {
            fill(x, 24);
            for (int left = 23; left >= 0; left--) {
                due("remove", x.remove(left / 2), left);
            }
        });
        sentence("Promise 4: NO_SUCH if there is no such rule", x -> {
            due("no rules", x.remove(0), NO_SUCH);
            fill(x, 2);
            for (int bad : new int[] {-1, 2, LEAST_INT, GREATEST_INT}) {
                due("rule " + bad, x.remove(bad), NO_SUCH);
            }
            due("the last rule", x.remove(1), 1);
            due("the last rule again", x.remove(1), NO_SUCH);
        });
    }

    private static BidLanguage withFour(BidLanguage x) {
        for (int i = 0; i < 4; i++) {
            x.rule(i, 10 + i, 0, 0);
            x.limit(i, 0, i, 5);
        }
        return x;
    }

    private static void dueRemoved(BidLanguage x, int rule, int... calls) {
        due("remove(" + rule + ")", withFour(x).remove(rule), 3);
        dueCalls(x, calls);
        for (int i = 0; i < 3; i++) {
            dueParts(x, i, calls[i] - 10, calls[i], 0, 0, calls[i] - 10);
        }
        due("part of the rule 3", x.part(3, 0), NO_SUCH);
    }

    private static void moveEdges() {
        sentence("Promise 5: removed and then inserted, from the first to the last", x -> {
            due("move", withFour(x).move(0, 3), 10);
            dueCalls(x, 11, 12, 13, 10);
            due("the range goes with it", x.part(3, 4), 0);
            due("the range of the last one goes with it", x.part(2, 4), 3);
        });
        sentence("Promise 5: removed and then inserted, from the last to the first", x -> {
            due("move", withFour(x).move(3, 0), 13);
            dueCalls(x, 13, 10, 11, 12);
            due("the range goes with it", x.part(0, 4), 3);
        });
        sentence("Promise 5: removed and then inserted, by one", x -> {
            due("one behind", withFour(x).move(1, 2), 11);
            dueCalls(x, 10, 12, 11, 13);
            due("one before", x.move(1, 0), 12);
            dueCalls(x, 12, 10, 11, 13);
        });
        sentence("Promise 5: removed and then inserted, with the same number", x -> {
            due("the first", withFour(x).move(0, 0), 10);
            due("the last", x.move(3, 3), 13);
            dueCalls(x, 10, 11, 12, 13);
        });
        sentence("Promise 5: moves the only rule, and one of 24", x -> {
            x.rule(0, PASS, 0, 0);
            due("the only rule", x.move(0, 0), PASS);
            x.remove(0);
            fill(x, 24);
            due("the last of 24", x.move(23, 0), 2);
            due("the first of 24", x.move(0, 23), 2);
            due("its state", x.part(23, 0), 7);
        });
        sentence("Promise 5: returns its call, 0 to PASS", x -> {
            x.rule(0, 0, 0, 0);
            x.rule(0, PASS, 0, 0);
            x.rule(0, 24, 0, 0);
            due("0", x.move(0, 2), 0);
            due("PASS", x.move(0, 2), PASS);
            due("24", x.move(0, 1), 24);
        });
        sentence("Promise 5: NO_SUCH if there is no such rule", x -> {
            due("no rules", x.move(0, 0), NO_SUCH);
            fill(x, 2);
            for (int bad : new int[] {-1, 2, LEAST_INT, GREATEST_INT}) {
                due("rule " + bad, x.move(bad, 0), NO_SUCH);
            }
        });
        sentence("Promise 5: NO_SUCH if to is no number of a rule", x -> {
            fill(x, 2);
            for (int bad : new int[] {-1, 2, LEAST_INT, GREATEST_INT}) {
                due("to " + bad, x.move(0, bad), NO_SUCH);
            }
        });
    }

    private static void partEdges() {
        sentence("Promise 6: 0 its state, 1 its call, 2 its next state, 3 whether it forces", x -> {
            x.rule(6, 17, 5, 1);
            x.rule(7, PASS, 0, 0);
            dueParts(x, 0, 6, 17, 5, 1);
            dueParts(x, 1, 7, PASS, 0, 0);
        });
        sentence("Promise 6: 4 and 5 the length in the suit 0, 6 to 11 in 1 to 3, 12 and 13 the strength", x -> {
            x.rule(0, 0, 0, 0);
            x.limit(0, 0, 0, 3);
            x.limit(0, 1, 1, 5);
            x.limit(0, 2, 2, 4);
            x.limit(0, 3, 5, 5);
            x.limit(0, 4, 16, 17);
            dueParts(x, 0, 0, 0, 0, 0, 0, 3, 1, 5, 2, 4, 5, 5, 16, 17);
        });
        sentence("Promise 6: BAD_VALUE if what is out of range", x -> {
            x.rule(0, 0, 0, 0);
            due("13", x.part(0, 13), 20);
            for (int bad : new int[] {-1, 14, LEAST_INT, GREATEST_INT}) {
                due("what " + bad, x.part(0, bad), BAD_VALUE);
            }
        });
        sentence("Promise 6: NO_SUCH if there is no such rule", x -> {
            due("no rules", x.part(0, 0), NO_SUCH);
            fill(x, 2);
            due("the last rule", x.part(1, 0), 1);
            for (int bad : new int[] {-1, 2, LEAST_INT, GREATEST_INT}) {
                due("rule " + bad, x.part(bad, 0), NO_SUCH);
            }
        });
    }

    public static void main(String[] args) {
        newObject();
        ruleArguments();
        ruleAnswers();
        limitArguments();
        limitAnswers();
        removeEdges();
        moveEdges();
        partEdges();
        finish("RulesEdgesTest");
    }
}
