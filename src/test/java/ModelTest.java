import java.util.ArrayList;
import java.util.List;
import java.util.Random;

/**
 * Long runs of calls, the same ones always, on the class and on a second program that is written
 * from the document in another way: slow, with lists and words in place of masks.
 */
public final class ModelTest {
    private static final int RUNS = 400;
    private static final int CALLS = 150;
    private static final String SUITS = "cdhs";

    private static final String[] NAMES = {"rule", "limit", "remove", "move", "part", "give", "draw", "hand", "begin",
        "call", "make", "back", "made", "state", "hands", "shown", "fits", "ruleOf", "reach", "holes", "tricks",
        "expected", "contract", "put", "wipe", "fault", "load"};
    // How often each method is called, in the order of the names.
    private static final int[] OFTEN = {25, 14, 2, 3, 5, 4, 3, 3, 3,
        50, 40, 14, 6, 16, 8, 8, 8, 8, 3, 4, 6,
        4, 3, 10, 2, 6, 8};

    private static final List<Hand> EVERY = everyHand();

    /** A hand as a list of its cards. */
    private static final class Hand {
        final List<Integer> cards = new ArrayList<>();

        static Hand of(long mask) {
            Hand hand = new Hand();
            for (int card = 0; card < 20; card++) {
                if ((mask & 1L << card) != 0) {
                    hand.cards.add(card);
                }
            }
            return hand;
        }

        int mask() {
            int mask = 0;
            for (int card : cards) {
                mask |= 1 << card;
            }
            return mask;
        }

        int length(int suit) {
            int length = 0;
            for (int card : cards) {
                length += card / 5 == suit ? 1 : 0;
            }
            return length;
        }

        int strength() {
            int sum = 0;
            for (int card : cards) {
                sum += card % 5;
            }
            return sum;
        }

        boolean has(int suit, int rank) {
            return cards.contains(5 * suit + rank);
        }

        boolean meets(Hand other) {
            for (int card : cards) {
                if (other.cards.contains(card)) {
                    return true;
                }
            }
            return false;
        }
    }

    private static List<Hand> everyHand() {
        List<Hand> hands = new ArrayList<>();
        for (int a = 0; a < 20; a++) {
            for (int b = a + 1; b < 20; b++) {
                for (int c = b + 1; c < 20; c++) {
                    for (int d = c + 1; d < 20; d++) {
                        for (int e = d + 1; e < 20; e++) {
                            hands.add(Hand.of(1L << a | 1L << b | 1L << c | 1L << d | 1L << e));
                        }
                    }
                }
            }
        }
        return hands;
    }

    private static final class Line {
        int state;
        int call;
        int next;
        boolean forces;
        int[] low = {0, 0, 0, 0, 0};
        int[] high = {5, 5, 5, 5, 20};

        boolean takes(Hand hand) {
            for (int suit = 0; suit < 4; suit++) {
                if (hand.length(suit) < low[suit] || hand.length(suit) > high[suit]) {
                    return false;
                }
            }
            return hand.strength() >= low[4] && hand.strength() <= high[4];
        }
    }

    /** The state of an auction is found anew from its calls each time. */
    private static final class Model {
        final List<Line> lines = new ArrayList<>();
        final List<Line> called = new ArrayList<>();
        final Hand[] hands = {Hand.of(31), Hand.of(992)};
        boolean stuck = false;
        String pad = "";

        void anew() {
            called.clear();
            stuck = false;
        }

        int stateAfter(int calls) {
            int state = 0;
            for (Line line : called.subList(0, calls)) {
                state = line.call == 25 ? state : line.next;
            }
            return state;
        }

        int lastAfter(int calls) {
            int last = -6;
            for (Line line : called.subList(0, calls)) {
                last = line.call == 25 ? last : line.call;
            }
            return last;
        }

        boolean forcedAfter(int calls) {
            boolean forced = false;
            for (Line line : called.subList(0, calls)) {
                forced = line.call == 25 ? forced : line.forces;
            }
            return forced;
        }

        boolean over() {
            return stuck || called.size() == 12 || !called.isEmpty() && called.get(called.size() - 1).call == 25;
        }

        List<Line> open(int state, int last, boolean forced) {
            List<Line> open = new ArrayList<>();
            for (Line line : lines) {
                boolean may = line.call == 25 ? !forced : last == -6 || line.call > last;
                if (line.state == state && may) {
                    open.add(line);
                }
            }
            return open;
        }

        List<Line> openAfter(int calls) {
            return open(stateAfter(calls), lastAfter(calls), forcedAfter(calls));
        }

        static Line first(List<Line> open, Hand hand) {
            for (Line line : open) {
                if (line.takes(hand)) {
                    return line;
                }
            }
            return null;
        }

        List<Hand> possible(int partner, Hand known) {
            List<Hand> left = new ArrayList<>();
            for (Hand hand : EVERY) {
                if (!hand.meets(known)) {
                    left.add(hand);
                }
            }
            for (int i = partner; i < called.size(); i += 2) {
                List<Line> open = openAfter(i);
                Line due = called.get(i);
                left.removeIf(hand -> first(open, hand) != due);
            }
            if (stuck && called.size() % 2 == partner) {
                List<Line> open = openAfter(called.size());
                left.removeIf(hand -> first(open, hand) != null);
            }
            return left;
        }

        static int tricks(int strain, Hand one, Hand other) {
            int tricks = 0;
            for (int suit = 0; suit < 4; suit++) {
                int run = 0;
                while (run < 5 && (one.has(suit, 4 - run) || other.has(suit, 4 - run))) {
                    run++;
                }
                tricks += Math.min(run, Math.max(one.length(suit), other.length(suit)));
                if (strain < 4 && suit != strain) {
                    boolean oneRuffs = one.length(suit) == 0 && one.length(strain) > 0 && other.length(suit) > 0;
                    boolean otherRuffs = other.length(suit) == 0 && other.length(strain) > 0 && one.length(suit) > 0;
                    tricks += (oneRuffs ? 1 : 0) + (otherRuffs ? 1 : 0);
                }
            }
            return Math.min(5, tricks);
        }

        long sum(int partner, int strain) {
            long sum = 0;
            for (Hand hand : possible(1 - partner, hands[partner])) {
                sum += tricks(strain, hands[partner], hand);
            }
            return sum;
        }

        int contract(int partner) {
            int count = possible(1 - partner, hands[partner]).size();
            if (count == 0) {
                return -6;
            }
            int best = 4;
            for (int strain = 3; strain >= 0; strain--) {
                best = sum(partner, strain) > sum(partner, best) ? strain : best;
            }
            long tricks = sum(partner, best) / count;
            return tricks == 0 ? -6 : (int) (tricks - 1) * 5 + best;
        }

        int shown(List<Hand> some, int what) {
            if (some.isEmpty()) {
                return -6;
            }
            int least = 99;
            int greatest = -1;
            int all = 1048575;
            int any = 0;
            for (Hand hand : some) {
                int number = what < 8 ? hand.length(what / 2) : hand.strength();
                least = Math.min(least, number);
                greatest = Math.max(greatest, number);
                all &= hand.mask();
                any |= hand.mask();
            }
            if (what >= 10) {
                return what == 10 ? all : any;
            }
            return what % 2 == 0 ? least : greatest;
        }

        int add(Line line) {
            if (lines.size() == 24) {
                return -4;
            }
            for (Line other : lines) {
                if (other.state == line.state && other.call == line.call) {
                    return -5;
                }
            }
            lines.add(line);
            anew();
            return lines.size() - 1;
        }

        int limit(int rule, int what, int low, int high) {
            int most = what == 4 ? 20 : 5;
            if (rule < 0 || rule >= lines.size()) {
                return -1;
            }
            if (what < 0 || what > 4 || low < 0 || low > most || high < low || high > most) {
                return -2;
            }
            lines.get(rule).low[what] = low;
            lines.get(rule).high[what] = high;
            anew();
            int count = 0;
            for (Hand hand : EVERY) {
                count += lines.get(rule).takes(hand) ? 1 : 0;
            }
            return count;
        }

        int part(Line line, int what) {
            int[] first = {line.state, line.call, line.next, line.forces ? 1 : 0};
            if (what < 4) {
                return first[what];
            }
            return what % 2 == 0 ? line.low[what / 2 - 2] : line.high[what / 2 - 2];
        }

        int draw(int seed) {
            List<Integer> left = new ArrayList<>(Hand.of(1048575).cards);
            hands[0] = new Hand();
            hands[1] = new Hand();
            int z = seed;
            for (int k = 0; k < 10; k++) {
                z = Math.floorMod(z * 1103 + 12345, 65536);
                hands[k / 5].cards.add(left.remove(z % (20 - k)));
            }
            anew();
            return hands[0].mask();
        }

        int call() {
            if (over()) {
                return -5;
            }
            Line line = first(openAfter(called.size()), hands[called.size() % 2]);
            if (line == null) {
                stuck = true;
                return -6;
            }
            called.add(line);
            return line.call;
        }

        int make(int call) {
            if (call < 0 || call > 25) {
                return -2;
            }
            for (Line line : over() ? new ArrayList<Line>() : openAfter(called.size())) {
                if (line.call == call) {
                    called.add(line);
                    return called.size();
                }
            }
            return -5;
        }

        int back() {
            if (stuck) {
                stuck = false;
            } else if (called.isEmpty()) {
                return -5;
            } else {
                called.remove(called.size() - 1);
            }
            return called.size();
        }

        int made(int index, int what) {
            if (what < 0 || what > 3) {
                return -2;
            }
            if (index < 0 || index >= called.size()) {
                return -6;
            }
            int[] all = {called.get(index).call, lines.indexOf(called.get(index)), stateAfter(index),
                forcedAfter(index) ? 1 : 0};
            return all[what];
        }

        int state(int what) {
            int calls = called.size();
            int[] all = {calls, stateAfter(calls), lastAfter(calls), forcedAfter(calls) ? 1 : 0, calls % 2,
                stuck ? 2 : over() ? 1 : 0, lines.size(), pad.length()};
            return what < 0 || what > 7 ? -2 : all[what];
        }

        int countWith(List<Line> open, Line due) {
            int count = 0;
            for (Hand hand : EVERY) {
                count += first(open, hand) == due ? 1 : 0;
            }
            return count;
        }

        int ruleOf(int mask) {
            if (!isHand(mask)) {
                return -2;
            }
            if (over()) {
                return -5;
            }
            Line line = first(openAfter(called.size()), Hand.of(mask));
            return line == null ? -6 : lines.indexOf(line);
        }

        int give(int partner, int mask) {
            if (!isHand(mask)) {
                return -2;
            }
            if (Hand.of(mask).meets(hands[1 - partner])) {
                return -5;
            }
            int previous = hands[partner].mask();
            hands[partner] = Hand.of(mask);
            anew();
            return previous;
        }

        int put(long characters) {
            String added = "";
            byte[] bytes = java.nio.ByteBuffer.allocate(8).putLong(characters).array();
            for (byte code : bytes) {
                if (code == 0 && added.isEmpty()) {
                    continue;
                }
                if (code < 33 || code == 127) {
                    return -2;
                }
                added += (char) code;
            }
            if (added.isEmpty()) {
                return -2;
            }
            if (pad.length() + added.length() > 60) {
                return -4;
            }
            pad += added;
            return pad.length();
        }
    }

    /** Reads a rule by lists of all words that may stand at a place. */
    private static final class Reader {
        final String text;
        final Line line = new Line();
        int at = 0;
        int fault = -6;

        Reader(String text) {
            this.text = text;
            read();
        }

        /** The number of the longest word that stands here; or a fault where the words and the text part. */
        int word(List<String> words) {
            int found = -1;
            int common = 0;
            for (int i = 0; i < words.size(); i++) {
                String word = words.get(i);
                int same = 0;
                while (same < word.length() && at + same < text.length() && word.charAt(same) == text.charAt(at + same)) {
                    same++;
                }
                if (same == word.length() && (found < 0 || word.length() > words.get(found).length())) {
                    found = i;
                }
                common = Math.max(common, same);
            }
            if (found < 0) {
                fault = at + common;
            } else {
                at += words.get(found).length();
            }
            return found;
        }

        static List<String> numbers(int most) {
            List<String> words = new ArrayList<>();
            for (int i = 0; i <= most; i++) {
                words.add(String.valueOf(i));
            }
            return words;
        }

        static List<String> calls() {
            List<String> words = new ArrayList<>();
            for (int bid = 0; bid < 25; bid++) {
                words.add((bid / 5 + 1) + "" + "cdhsn".charAt(bid % 5));
            }
            words.add("p");
            return words;
        }

        void read() {
            line.state = word(numbers(7));
            if (fault != -6 || word(List.of(":")) < 0) {
                return;
            }
            line.call = word(calls());
            if (fault != -6 || word(List.of(">")) < 0) {
                return;
            }
            line.next = word(numbers(7));
            if (fault != -6) {
                return;
            }
            line.forces = word(List.of("!", "")) == 0;
            List<String> kinds = new ArrayList<>(List.of("c", "d", "h", "s", "+"));
            while (at < text.length() && fault == -6) {
                condition(kinds);
            }
        }

        void condition(List<String> kinds) {
            if (word(List.of(",")) < 0) {
                return;
            }
            int kind = word(kinds);
            if (kind < 0) {
                return;
            }
            int what = "cdhs+".indexOf(kinds.remove(kind));
            int low = word(numbers(what == 4 ? 20 : 5));
            if (fault != -6 || word(List.of("-")) < 0) {
                return;
            }
            int high = word(numbers(what == 4 ? 20 : 5));
            if (fault == -6 && high < low) {
                fault = at - 1;
            }
            line.low[what] = low;
            line.high[what] = high;
        }
    }

    private static boolean isHand(long mask) {
        return mask >= 0 && mask < 1048576 && Hand.of(mask).cards.size() == 5;
    }

    private static boolean isSet(long mask) {
        return mask >= 0 && mask < 1048576;
    }

    private static long ofModel(Model m, String name, int[] a, long characters) {
        boolean isRule = a[0] >= 0 && a[0] < m.lines.size();
        boolean isPartner = a[0] == 0 || a[0] == 1;
        switch (name) {
            case "rule":
                if (a[0] < 0 || a[0] > 7 || a[1] < 0 || a[1] > 25 || a[2] < 0 || a[2] > 7 || a[3] < 0 || a[3] > 1) {
                    return -2;
                }
                Line line = new Line();
                line.state = a[0];
                line.call = a[1];
                line.next = a[2];
                line.forces = a[3] == 1;
                return m.add(line);
            case "limit":
                return m.limit(a[0], a[1], a[2], a[3]);
            case "remove":
                if (isRule) {
                    m.lines.remove(a[0]);
                    m.anew();
                }
                return isRule ? m.lines.size() : -1;
            case "move":
                if (!isRule || a[1] < 0 || a[1] >= m.lines.size()) {
                    return -1;
                }
                m.lines.add(a[1], m.lines.remove(a[0]));
                m.anew();
                return m.lines.get(a[1]).call;
            case "part":
                return !isRule ? -1 : a[1] < 0 || a[1] > 13 ? -2 : m.part(m.lines.get(a[0]), a[1]);
            case "give":
                return isPartner ? m.give(a[0], a[1]) : -1;
            case "draw":
                return a[0] < 0 || a[0] > 65535 ? -2 : m.draw(a[0]);
            case "hand":
                if (!isPartner || a[1] < 0 || a[1] > 5) {
                    return isPartner ? -2 : -1;
                }
                Hand held = m.hands[a[0]];
                return a[1] == 0 ? held.mask() : a[1] == 5 ? held.strength() : held.length(a[1] - 1);
            case "begin":
                int calls = m.called.size();
                m.anew();
                return calls;
            case "call":
                return m.call();
            case "make":
                return m.make(a[0]);
            case "back":
                return m.back();
            case "made":
                return m.made(a[0], a[1]);
            case "state":
                return m.state(a[0]);
            default:
                return ofModelToo(m, name, a, characters, isRule, isPartner);
        }
    }

    private static long ofModelToo(Model m, String name, int[] a, long characters, boolean isRule, boolean isPartner) {
        switch (name) {
            case "hands":
                return !isPartner ? -1 : !isSet(a[1]) ? -2 : m.possible(a[0], Hand.of(a[1])).size();
            case "shown":
                return !isPartner ? -1 : !isSet(a[1]) || a[2] < 0 || a[2] > 11 ? -2
                    : m.shown(m.possible(a[0], Hand.of(a[1])), a[2]);
            case "fits":
                if (!isPartner || !isHand(a[1])) {
                    return isPartner ? -2 : -1;
                }
                for (Hand hand : m.possible(a[0], new Hand())) {
                    if (hand.mask() == a[1]) {
                        return 1;
                    }
                }
                return 0;
            case "ruleOf":
                return m.ruleOf(a[0]);
            case "reach":
                return !isRule ? -1 : m.countWith(m.open(m.lines.get(a[0]).state, -6, false), m.lines.get(a[0]));
            case "holes":
                if (a[0] < 0 || a[0] > 7 || a[1] != -6 && a[1] < 0 || a[1] > 24 || a[2] < 0 || a[2] > 1) {
                    return -2;
                }
                return m.countWith(m.open(a[0], a[1], a[2] == 1), null);
            case "tricks":
                if (a[0] < 0 || a[0] > 4 || !isHand(a[1]) || !isHand(a[2]) || Hand.of(a[1]).meets(Hand.of(a[2]))) {
                    return -2;
                }
                return Model.tricks(a[0], Hand.of(a[1]), Hand.of(a[2]));
            case "expected":
                return !isPartner ? -1 : a[1] < 0 || a[1] > 4 ? -2 : m.sum(a[0], a[1]);
            case "contract":
                return isPartner ? m.contract(a[0]) : -1;
            case "put":
                return m.put(characters);
            case "wipe":
                int length = m.pad.length();
                m.pad = "";
                return length;
            case "fault":
                return new Reader(m.pad).fault;
            default:
                Reader reader = new Reader(m.pad);
                int number = reader.fault == -6 ? m.add(reader.line) : -3;
                m.pad = number < 0 ? m.pad : "";
                return number;
        }
    }

    private static long ofClass(BidLanguage x, String name, int[] a, long characters) {
        switch (name) {
            case "rule": return x.rule(a[0], a[1], a[2], a[3]);
            case "limit": return x.limit(a[0], a[1], a[2], a[3]);
            case "remove": return x.remove(a[0]);
            case "move": return x.move(a[0], a[1]);
            case "part": return x.part(a[0], a[1]);
            case "give": return x.give(a[0], a[1]);
            case "draw": return x.draw(a[0]);
            case "hand": return x.hand(a[0], a[1]);
            case "begin": return x.begin();
            case "call": return x.call();
            case "make": return x.make(a[0]);
            case "back": return x.back();
            case "made": return x.made(a[0], a[1]);
            case "state": return x.state(a[0]);
            case "hands": return x.hands(a[0], a[1]);
            case "shown": return x.shown(a[0], a[1], a[2]);
            case "fits": return x.fits(a[0], a[1]);
            case "ruleOf": return x.ruleOf(a[0]);
            case "reach": return x.reach(a[0]);
            case "holes": return x.holes(a[0], a[1], a[2]);
            case "tricks": return x.tricks(a[0], a[1], a[2]);
            case "expected": return x.expected(a[0], a[1]);
            case "contract": return x.contract(a[0]);
            case "put": return x.put(characters);
            case "wipe": return x.wipe();
            case "fault": return x.fault();
            default: return x.load();
        }
    }

    // ---- the arguments

    private static final int[] ODD = {Integer.MIN_VALUE, Integer.MAX_VALUE, -1, -6, -7, 26, 64, 1 << 20, -31, 65536};

    private static int hand(Random random) {
        int mask = 0;
        while (Integer.bitCount(mask) < 5) {
            mask |= 1 << random.nextInt(20);
        }
        return mask;
    }

    private static int cards(Random random) {
        int mask = random.nextInt(1 << 20) & random.nextInt(1 << 20);
        return random.nextInt(3) == 0 ? 0 : random.nextBoolean() ? mask & random.nextInt(1 << 20) : mask;
    }

    private static int[] arguments(Random random, Model m, String name, int states) {
        int rules = m.lines.size();
        int rule = rules == 0 ? 0 : random.nextInt(rules);
        switch (name) {
            case "rule":
                return new int[] {random.nextInt(states), random.nextInt(26), random.nextInt(states), random.nextInt(4) / 3};
            case "limit":
                int what = random.nextInt(5);
                int most = what == 4 ? 20 : 5;
                int low = random.nextInt(most + 1) / 2;
                return new int[] {rule, what, low, low + random.nextInt(most - low + 1)};
            case "remove": case "reach":
                return new int[] {rule, 0, 0, 0};
            case "move":
                return new int[] {rule, rules == 0 ? 0 : random.nextInt(rules), 0, 0};
            case "part":
                return new int[] {rule, random.nextInt(15), 0, 0};
            case "give": case "fits":
                return new int[] {random.nextInt(2), hand(random), 0, 0};
            case "draw":
                return new int[] {random.nextInt(65536), 0, 0, 0};
            case "hand": case "expected":
                return new int[] {random.nextInt(2), random.nextInt(6), 0, 0};
            case "make":
                return new int[] {nextCall(random, m), 0, 0, 0};
            case "made":
                return new int[] {random.nextInt(13), random.nextInt(5), 0, 0};
            case "state":
                return new int[] {random.nextInt(9), 0, 0, 0};
            case "hands":
                return new int[] {random.nextInt(2), cards(random), 0, 0};
            case "shown":
                return new int[] {random.nextInt(2), cards(random), random.nextInt(13), 0};
            case "ruleOf":
                return new int[] {hand(random), 0, 0, 0};
            case "holes":
                return new int[] {random.nextInt(states), random.nextBoolean() ? -6 : random.nextInt(26), random.nextInt(2), 0};
            case "tricks":
                int one = hand(random);
                int other = hand(random);
                return new int[] {random.nextInt(5), one, (one & other) == 0 ? other : one << 5 & 1048575 & ~one, 0};
            default:
                return new int[] {random.nextInt(2), 0, 0, 0};
        }
    }

    /** Mostly a call that is open, so that auctions grow long. */
    private static int nextCall(Random random, Model m) {
        List<Line> open = m.openAfter(m.called.size());
        if (open.isEmpty() || random.nextInt(4) == 0) {
            return random.nextInt(26);
        }
        int call = open.get(0).call;
        for (Line line : open) {
            call = random.nextInt(3) > 0 ? Math.min(call, line.call) : call;
        }
        return call;
    }

    private static String ruleText(Random random, int states) {
        StringBuilder text = new StringBuilder();
        text.append(random.nextInt(states)).append(':');
        int bid = random.nextInt(26);
        text.append(Reader.calls().get(bid)).append('>').append(random.nextInt(states));
        text.append(random.nextInt(3) == 0 ? "!" : "");
        int conditions = random.nextInt(6);
        int start = random.nextInt(5);
        for (int i = 0; i < conditions; i++) {
            int what = (start + i) % (random.nextInt(8) == 0 ? 4 : 5);
            int most = what == 4 ? 20 : 5;
            int low = random.nextInt(most + 1);
            int high = random.nextInt(10) == 0 ? random.nextInt(most + 5) : low + random.nextInt(most - low + 1);
            text.append(',').append((SUITS + "+").charAt(what)).append(low).append('-').append(high);
        }
        int changes = random.nextInt(2) * random.nextInt(3);
        for (int i = 0; i < changes; i++) {
            int at = random.nextInt(text.length());
            if (random.nextBoolean()) {
                text.setCharAt(at, "0123456789cdhsn+-,:>!px".charAt(random.nextInt(23)));
            } else if (text.length() > 1) {
                text.deleteCharAt(at);
            }
        }
        return text.toString();
    }

    private static long packed(String text) {
        long number = 0;
        for (char sign : text.toCharArray()) {
            number = number << 8 | sign;
        }
        return number;
    }

    // ---- the runs

    private final BidLanguage x = new BidLanguage();
    private final Model m = new Model();
    private final StringBuilder told = new StringBuilder();
    private boolean alike = true;

    private long ask(String name, int[] a, long characters) {
        long got = ofClass(x, name, a, characters);
        long want = ofModel(m, name, a, characters);
        told.append(name).append(' ').append(java.util.Arrays.toString(a)).append(' ').append(characters);
        told.append(" answered ").append(got).append(", due is ").append(want).append('\n');
        alike = alike && got == want;
        return want;
    }

    private void askAll(Random random, int states) {
        int all = 0;
        for (int often : OFTEN) {
            all += often;
        }
        for (int i = 0; i < CALLS && alike; i++) {
            int pick = random.nextInt(all);
            int number = 0;
            while (pick >= OFTEN[number]) {
                pick -= OFTEN[number];
                number++;
            }
            String name = NAMES[number];
            if (name.equals("put") || name.equals("fault") || name.equals("load")) {
                write(random, states);
            }
            int[] a = arguments(random, m, name, states);
            if (random.nextInt(12) == 0) {
                a[random.nextInt(4)] = ODD[random.nextInt(ODD.length)];
            }
            long odd = random.nextInt(3) == 0 ? random.nextLong() >>> 8 * random.nextInt(8) : 33 + random.nextInt(94);
            if (!name.equals("put") || random.nextBoolean()) {
                ask(name, a, odd);
            }
        }
    }

    private void write(Random random, int states) {
        if (random.nextInt(4) > 0) {
            ask("wipe", new int[4], 0);
        }
        String text = ruleText(random, states);
        for (int i = 0; i < text.length(); i += 8) {
            ask("put", new int[4], packed(text.substring(i, Math.min(text.length(), i + 8))));
        }
        if (random.nextBoolean()) {
            ask("fault", new int[4], 0);
        }
    }

    /** The whole state, by all calls that only look. */
    private void askState() {
        for (int what = 0; what < 8; what++) {
            ask("state", new int[] {what, 0, 0, 0}, 0);
        }
        for (int rule = 0; rule < m.lines.size(); rule++) {
            for (int what = 0; what < 14; what++) {
                ask("part", new int[] {rule, what, 0, 0}, 0);
            }
        }
        for (int partner = 0; partner < 2; partner++) {
            ask("hand", new int[] {partner, 0, 0, 0}, 0);
            ask("hands", new int[] {partner, 0, 0, 0}, 0);
        }
    }

    public static void main(String[] args) {
        long asked = 0;
        for (int run = 0; run < RUNS; run++) {
            Random random = new Random(run);
            ModelTest test = new ModelTest();
            test.askAll(random, 1 + random.nextInt(run % 2 == 0 ? 2 : 8));
            test.askState();
            asked += test.told.chars().filter(sign -> sign == '\n').count();
            if (!test.alike) {
                System.out.println("run " + run + " parts from the document:\n" + test.told);
                System.exit(1);
            }
        }
        System.out.println("ModelTest: " + RUNS + " runs, " + asked + " answers as due");
    }
}
