import java.util.ArrayList;
import java.util.HashSet;
import java.util.List;
import java.util.Set;
import java.util.function.Consumer;
import java.util.function.LongSupplier;

/** What the tests share: sentences of the document, answers that are due, and short forms of hands and texts. */
abstract class Checks {
    static final int NO_SUCH = -1, BAD_VALUE = -2, BAD_TEXT = -3, TOO_MANY = -4, NOT_POSSIBLE = -5, NONE = -6;
    static final int PASS = 25;
    static final int ALL = 15504;
    static final int ALL_CARDS = 1048575;
    static final int LEAST_INT = Integer.MIN_VALUE;
    static final int GREATEST_INT = Integer.MAX_VALUE;
    /** Sets with too few or too many cards, and numbers with bits that are no cards. */
    static final int[] NO_HANDS = {0, 1, 15, 63, ALL_CARDS, 1 << 20, 15 | 1 << 20, 31 | 1 << 20, 31 << 16,
        15 | LEAST_INT, 31 | LEAST_INT, -1, -32, LEAST_INT, GREATEST_INT};
    /** How many of all hands have each length in a suit: C(5, length) * C(15, 5 - length). */
    static final int[] OF_LENGTH = {3003, 6825, 4550, 1050, 75, 1};

    private static final Set<String> SENTENCES = new HashSet<>();
    private static String sentence = "";
    private static int wrong = 0;
    private static int asked = 0;
    private static int broken = 0;

    static void due(String what, long got, long want) {
        asked++;
        if (got != want) {
            tellWrong(what + " answered " + got + ", due is " + want);
        }
    }

    static void dueText(String what, String got, String want) {
        asked++;
        if (!got.equals(want)) {
            tellWrong(what + ": is\n" + got + "\ndue is\n" + want);
        }
    }

    private static void tellWrong(String text) {
        wrong++;
        System.out.println((sentence.isEmpty() ? "" : "[" + sentence + "] ") + text);
    }

    /** A test of its own for one sentence of the document, with a new object; it may not be empty. */
    static void sentence(String text, Consumer<BidLanguage> test) {
        sentence = text;
        int wrongBefore = wrong;
        int askedBefore = asked;
        try {
            test.accept(new BidLanguage());
        } catch (RuntimeException thrown) {
            tellWrong("threw " + thrown);
        }
        if (asked == askedBefore) {
            tellWrong("asked nothing");
        }
        if (!SENTENCES.add(text)) {
            tellWrong("has two tests");
        }
        broken += wrong > wrongBefore ? 1 : 0;
        sentence = "";
    }

    /** To be called at the end of a main method. */
    static void finish(String name) {
        String sentences = SENTENCES.isEmpty() ? "" : SENTENCES.size() + " sentences, " + broken + " broken; ";
        System.out.println(name + ": " + sentences + asked + " answers, " + wrong + " wrong");
        if (wrong != 0) {
            System.exit(1);
        }
    }

    /** A hand written as one character a card: the rank, with the suits c, d, h, s before their ranks: "c43 s210". */
    static int cards(String text) {
        int set = 0;
        int suit = 0;
        for (char sign : text.toCharArray()) {
            int found = "cdhs".indexOf(sign);
            if (found >= 0) {
                suit = found;
            } else if (sign != ' ') {
                set |= 1 << (5 * suit + sign - '0');
            }
        }
        return set;
    }

    /** Up to 8 characters as the number by which put() takes them. */
    static long packed(String text) {
        long number = 0;
        for (char sign : text.toCharArray()) {
            number = number << 8 | sign;
        }
        return number;
    }

    /** Puts a text into the pad in place of what was there. */
    static void write(BidLanguage x, String text) {
        x.wipe();
        for (int i = 0; i < text.length(); i += 8) {
            int end = Math.min(text.length(), i + 8);
            due("put of '" + text.substring(i, end) + "'", x.put(packed(text.substring(i, end))), end);
        }
    }

    /** What fault() and load() do with a text, NONE for a text without a fault. */
    static void dueFault(String text, int want) {
        BidLanguage x = new BidLanguage();
        write(x, text);
        due("fault of '" + text + "'", x.fault(), want);
        due("fault of '" + text + "' again", x.fault(), want);
        due("pad after the fault of '" + text + "'", x.state(7), text.length());
        due("load of '" + text + "'", x.load(), want == NONE ? 0 : BAD_TEXT);
        due("pad after the load of '" + text + "'", x.state(7), want == NONE ? 0 : text.length());
        due("rules after the load of '" + text + "'", x.state(6), want == NONE ? 1 : 0);
    }

    /** The first numbers of part(). */
    static void dueParts(BidLanguage x, int rule, int... want) {
        for (int what = 0; what < want.length; what++) {
            due("part(" + rule + ", " + what + ")", x.part(rule, what), want[what]);
        }
    }

    /** The first numbers of state(): calls, state, last bid, forced, turn and ending. */
    static void dueAuction(String when, BidLanguage x, int... want) {
        for (int what = 0; what < want.length; what++) {
            due("state(" + what + ") " + when, x.state(what), want[what]);
        }
    }

    static void dueAnew(String after, BidLanguage x) {
        dueAuction("after " + after, x, 0, 0, NONE, 0, 0, 0);
        due("made after " + after, x.made(0, 0), NONE);
    }

    /** The calls of the rules, in order. */
    static void dueCalls(BidLanguage x, int... want) {
        due("rules", x.state(6), want.length);
        for (int i = 0; i < want.length; i++) {
            due("call of rule " + i, x.part(i, 1), want[i]);
        }
    }

    static void fill(BidLanguage x, int rules) {
        for (int i = 0; i < rules; i++) {
            due("rule " + i, x.rule(i % 8, i / 8, 0, 0), i);
        }
    }

    /** The hands that a seed gives, drawn from a list of the cards that are left. */
    static int[] drawn(int seed) {
        List<Integer> left = new ArrayList<>();
        for (int card = 0; card < 20; card++) {
            left.add(card);
        }
        int[] hands = new int[2];
        long z = seed;
        for (int k = 0; k < 10; k++) {
            z = (z * 1103 + 12345) % 65536;
            hands[k / 5] |= 1 << left.remove((int) (z % left.size()));
        }
        return hands;
    }

    /** The first calls of an auction. */
    static void makeAll(BidLanguage x, int... calls) {
        for (int i = 0; i < calls.length; i++) {
            due("make(" + calls[i] + ")", x.make(calls[i]), i + 1);
        }
    }

    /** An auction of 12 calls, 1 to 12, in state 0; the bid 13 has a rule, too. */
    static BidLanguage twelve() {
        BidLanguage x = new BidLanguage();
        for (int bid = 1; bid <= 13; bid++) {
            x.rule(0, bid, 0, 0);
        }
        for (int bid = 1; bid <= 12; bid++) {
            due("call()", x.call(), bid);
        }
        return x;
    }

    /** An auction that is over by a pass behind one bid. */
    static BidLanguage passed() {
        BidLanguage x = new BidLanguage();
        x.rule(0, 3, 1, 0);
        x.rule(1, PASS, 0, 0);
        makeAll(x, 3, PASS);
        return x;
    }

    /** An auction that is stuck behind one bid, which forced; the state 1 has a rule for strength 1 alone. */
    static BidLanguage stuck() {
        BidLanguage x = new BidLanguage();
        x.rule(0, 3, 1, 1);
        x.rule(1, 9, 0, 0);
        x.limit(1, 4, 1, 1);
        makeAll(x, 3);
        due("call() without a rule", x.call(), NONE);
        return x;
    }

    /** The rules are in one order, the auction has calls and is forced, the pad has a text: all can be seen to stay. */
    static BidLanguage busy() {
        BidLanguage x = new BidLanguage();
        x.rule(0, 3, 1, 1);
        x.rule(1, 9, 2, 1);
        x.rule(2, 12, 0, 0);
        x.rule(0, PASS, 7, 0);
        x.limit(0, 4, 3, 18);
        x.limit(1, 2, 0, 4);
        x.give(1, cards("h01234"));
        x.give(0, cards("s01234"));
        makeAll(x, 3, 9);
        write(x, "0:1s>0");
        return x;
    }

    /** Everything that can be asked without changing anything; of many rules only a part, to stay below 512 calls. */
    static String picture(BidLanguage x) {
        StringBuilder text = new StringBuilder();
        for (int what = 0; what < 8; what++) {
            text.append(x.state(what)).append(' ');
        }
        int rules = x.state(6);
        for (int rule = 0; rule < rules; rule++) {
            text.append("\nrule");
            for (int what = 0; what < (rules > 8 ? 4 : 14); what++) {
                text.append(' ').append(x.part(rule, what));
            }
            text.append(", reach ").append(x.reach(rule));
        }
        for (int index = 0; index <= x.state(0); index++) {
            text.append("\nmade ").append(x.made(index, 0)).append(' ').append(x.made(index, 1));
            text.append(' ').append(x.made(index, 2)).append(' ').append(x.made(index, 3));
        }
        for (int partner = 0; partner < 2; partner++) {
            text.append("\nhand ").append(x.hand(partner, 0)).append(" of ").append(x.hands(partner, 0));
        }
        return text.append("\nfault ").append(x.fault()).toString();
    }

    /** A call that fails: its error is due, and nothing is changed. */
    static void dueFails(String what, BidLanguage x, LongSupplier call, long error) {
        String before = picture(x);
        due(what, call.getAsLong(), error);
        dueText("after " + what, picture(x), before);
    }
}
