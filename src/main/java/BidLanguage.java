import java.util.ArrayList;

/**
 * A workshop for the language of bids in a card game with a small pack.
 * The promises are those of the document; every answer below 0 is one of the constants.
 */
public final class BidLanguage {
    public static final int NO_SUCH = -1, BAD_VALUE = -2, BAD_TEXT = -3, TOO_MANY = -4, NOT_POSSIBLE = -5, NONE = -6;
    public static final int PASS = 25;

    private static final int MOST_RULES = 24;
    private static final int MOST_CALLS = 12;
    private static final int MOST_CHARACTERS = 60;
    private static final int MOST_AT_ONCE = 8;
    private static final int GREATEST_STATE = 7;
    private static final int GREATEST_SEED = 65535;

    private static final int CARDS = 20;
    private static final int PACK = (1 << CARDS) - 1;
    private static final int SUITS = 4;
    private static final int RANKS = 5;
    private static final int HAND_SIZE = 5;
    private static final int ALL_HANDS = 15504;
    private static final int FIRST_HAND = 31;
    private static final int NO_TRUMPS = 4;
    private static final int MOST_TRICKS = 5;

    // The measures of a hand are its lengths in the suits 0 to 3, and its strength as the last one.
    private static final int STRENGTH = 4;
    private static final int MEASURES = 5;

    private final ArrayList<Rule> rules = new ArrayList<>();
    private final Auction auction = new Auction();
    private final StringBuilder pad = new StringBuilder();
    private int firstHand = FIRST_HAND;
    private int secondHand = FIRST_HAND << HAND_SIZE;

    public BidLanguage() {
    }

    // ---- rules

    public int rule(int state, int call, int next, int force) {
        if (!isState(state) || !isCall(call) || !isState(next) || !isFlag(force)) {
            return BAD_VALUE;
        }
        return addRule(new Rule(state, call, next, force));
    }

    public int limit(int rule, int what, int low, int high) {
        if (!isRule(rule)) {
            return NO_SUCH;
        }
        if (what < 0 || what >= MEASURES) {
            return BAD_VALUE;
        }
        if (low < 0 || high < low || high > Cards.greatestMeasure(what)) {
            return BAD_VALUE;
        }
        Rule changed = rules.get(rule);
        changed.setRange(what, low, high);
        auction.restart();
        return countAdmitted(changed);
    }

    public int remove(int rule) {
        if (!isRule(rule)) {
            return NO_SUCH;
        }
        rules.remove(rule);
        auction.restart();
        return rules.size();
    }

    public int move(int rule, int to) {
        if (!isRule(rule) || !isRule(to)) {
            return NO_SUCH;
        }
        Rule moved = rules.get(rule);
        rules.remove(rule);
        rules.add(to, moved);
        auction.restart();
        return moved.call;
    }

    public int part(int rule, int what) {
        if (!isRule(rule)) {
            return NO_SUCH;
        }
        if (what < 0 || what >= 4 + 2 * MEASURES) {
            return BAD_VALUE;
        }
        return rules.get(rule).number(what);
    }

    // ---- hands

    public int give(int partner, int hand) {
        if (!isPartner(partner)) {
            return NO_SUCH;
        }
        if (!Cards.isHand(hand)) {
            return BAD_VALUE;
        }
        if ((hand & handOf(1 - partner)) != 0) {
            return NOT_POSSIBLE;
        }
        int previous = handOf(partner);
        if (partner == 0) {
            firstHand = hand;
        } else {
            secondHand = hand;
        }
        auction.restart();
        return previous;
    }

    public int draw(int seed) {
        if (seed < 0 || seed > GREATEST_SEED) {
            return BAD_VALUE;
        }
        int z = seed;
        int left = PACK;
        int first = 0;
        for (int k = 0; k < 2 * HAND_SIZE; k++) {
            z = (z * 1103 + 12345) % 65536;
            left -= Cards.cardAt(left, z % (CARDS - k));
            if (k == HAND_SIZE - 1) {
                first = PACK - left;
            }
        }
        firstHand = first;
        secondHand = PACK - left - first;
        auction.restart();
        return first;
    }

    public int hand(int partner, int what) {
        if (!isPartner(partner)) {
            return NO_SUCH;
        }
        if (what < 0 || what > MEASURES) {
            return BAD_VALUE;
        }
        return what == 0 ? handOf(partner) : Cards.measure(handOf(partner), what - 1);
    }

    // ---- auctions

    public int begin() {
        int calls = auction.calls.size();
        auction.restart();
        return calls;
    }

    public int call() {
        if (auction.isOver()) {
            return NOT_POSSIBLE;
        }
        int number = firstRule(auction.now, Cards.profile(handOf(auction.turn())));
        if (!isRule(number)) {
            auction.stuck = true;
            return NONE;
        }
        Rule chosen = rules.get(number);
        auction.add(chosen, number);
        return chosen.call;
    }

    public int make(int call) {
        if (!isCall(call)) {
            return BAD_VALUE;
        }
        if (auction.isOver()) {
            return NOT_POSSIBLE;
        }
        int number = openRule(call);
        if (!isRule(number)) {
            return NOT_POSSIBLE;
        }
        auction.add(rules.get(number), number);
        return auction.calls.size();
    }

    public int back() {
        if (!auction.takeBack()) {
            return NOT_POSSIBLE;
        }
        return auction.calls.size();
    }

    public int made(int index, int what) {
        if (what < 0 || what > 3) {
            return BAD_VALUE;
        }
        if (index < 0 || index >= auction.calls.size()) {
            return NONE;
        }
        return auction.calls.get(index).number(what);
    }

    public int state(int what) {
        switch (what) {
            case 0:
                return auction.calls.size();
            case 1:
                return auction.now.state;
            case 2:
                return auction.now.last;
            case 3:
                return auction.now.force;
            case 4:
                return auction.turn();
            case 5:
                return auction.ending();
            case 6:
                return rules.size();
            case 7:
                return pad.length();
            default:
                return BAD_VALUE;
        }
    }

    // ---- what is told

    public int hands(int partner, int known) {
        if (!isPartner(partner)) {
            return NO_SUCH;
        }
        if (!Cards.isSet(known)) {
            return BAD_VALUE;
        }
        return countHidden(partner, known);
    }

    public int shown(int partner, int known, int what) {
        if (!isPartner(partner)) {
            return NO_SUCH;
        }
        if (!Cards.isSet(known) || what < 0 || what > 11) {
            return BAD_VALUE;
        }
        int found = NONE;
        for (int i = 0, hand = FIRST_HAND; i < ALL_HANDS; i++, hand = Cards.handAfter(hand)) {
            if (isHidden(partner, known, hand)) {
                int number = Cards.shownNumber(hand, what);
                found = found == NONE ? number : Cards.joinShown(found, number, what);
            }
        }
        return found;
    }

    public int fits(int partner, int hand) {
        if (!isPartner(partner)) {
            return NO_SUCH;
        }
        if (!Cards.isHand(hand)) {
            return BAD_VALUE;
        }
        return fitsAuction(partner, hand) ? 1 : 0;
    }

    public int ruleOf(int hand) {
        if (!Cards.isHand(hand)) {
            return BAD_VALUE;
        }
        if (auction.isOver()) {
            return NOT_POSSIBLE;
        }
        return firstRule(auction.now, Cards.profile(hand));
    }

    public int reach(int rule) {
        if (!isRule(rule)) {
            return NO_SUCH;
        }
        return countWithRule(new Position(rules.get(rule).state, NONE, 0), rule);
    }

    public int holes(int state, int last, int force) {
        if (!isState(state) || !isFlag(force)) {
            return BAD_VALUE;
        }
        if (last != NONE && (last < 0 || last >= PASS)) {
            return BAD_VALUE;
        }
        return countWithRule(new Position(state, last, force), NONE);
    }

    // ---- contracts

    public int tricks(int strain, int one, int other) {
        if (!isStrain(strain) || !Cards.isHand(one) || !Cards.isHand(other) || (one & other) != 0) {
            return BAD_VALUE;
        }
        return Cards.tricksOf(strain, one, other);
    }

    public long expected(int partner, int strain) {
        if (!isPartner(partner)) {
            return NO_SUCH;
        }
        if (!isStrain(strain)) {
            return BAD_VALUE;
        }
        return sumOfTricks(partner, strain);
    }

    public int contract(int partner) {
        if (!isPartner(partner)) {
            return NO_SUCH;
        }
        int count = countHidden(1 - partner, handOf(partner));
        if (count == 0) {
            return NONE;
        }
        long greatest = 0;
        int best = 0;
        for (int strain = 0; strain <= NO_TRUMPS; strain++) {
            long sum = sumOfTricks(partner, strain);
            if (sum >= greatest) {
                greatest = sum;
                best = strain;
            }
        }
        int tricks = (int) (greatest / count);
        return tricks == 0 ? NONE : (tricks - 1) * 5 + best;
    }

    // ---- texts

    public int put(long characters) {
        int count = 0;
        long rest = characters;
        // A zero code with anything above it is refused here too, as no code below 33 is one.
        for (; count < MOST_AT_ONCE && rest != 0; count++) {
            if (!isCharacter((int) (rest & 255))) {
                return BAD_VALUE;
            }
            rest = rest >>> 8;
        }
        if (count == 0) {
            return BAD_VALUE;
        }
        if (pad.length() + count > MOST_CHARACTERS) {
            return TOO_MANY;
        }
        for (int i = count - 1; i >= 0; i--) {
            pad.append((char) ((characters >>> (8 * i)) & 255));
        }
        return pad.length();
    }

    public int wipe() {
        int length = pad.length();
        pad.setLength(0);
        return length;
    }

    public int fault() {
        RuleReader reader = new RuleReader(pad);
        return reader.readsWhole() ? NONE : reader.at;
    }

    public int load() {
        RuleReader reader = new RuleReader(pad);
        if (!reader.readsWhole()) {
            return BAD_TEXT;
        }
        int number = addRule(reader.rule);
        if (number >= 0) {
            pad.setLength(0);
        }
        return number;
    }

    // ---- what arguments may be

    private static boolean isState(int state) {
        return state >= 0 && state <= GREATEST_STATE;
    }

    private static boolean isCall(int call) {
        return call >= 0 && call <= PASS;
    }

    private static boolean isFlag(int flag) {
        return flag == 0 || flag == 1;
    }

    private static boolean isPartner(int partner) {
        return partner == 0 || partner == 1;
    }

    private static boolean isStrain(int strain) {
        return strain >= 0 && strain <= NO_TRUMPS;
    }

    private static boolean isCharacter(int code) {
        return code >= 33 && code <= 126;
    }

    private boolean isRule(int rule) {
        return rule >= 0 && rule < rules.size();
    }

    // ---- the parts of the answers

    private int handOf(int partner) {
        return partner == 0 ? firstHand : secondHand;
    }

    private int addRule(Rule added) {
        if (rules.size() >= MOST_RULES) {
            return TOO_MANY;
        }
        for (int i = 0; i < rules.size(); i++) {
            Rule other = rules.get(i);
            if (other.state == added.state && other.call == added.call) {
                return NOT_POSSIBLE;
            }
        }
        rules.add(added);
        auction.restart();
        return rules.size() - 1;
    }

    /** The number of the first open rule that a hand with this profile fits, or NONE. */
    private int firstRule(Position position, int profile) {
        for (int i = 0; i < rules.size(); i++) {
            Rule rule = rules.get(i);
            if (rule.isOpen(position) && rule.admits(profile)) {
                return i;
            }
        }
        return NONE;
    }

    /** The number of the open rule with this call, or NONE. */
    private int openRule(int call) {
        for (int i = 0; i < rules.size(); i++) {
            Rule rule = rules.get(i);
            if (rule.call == call && rule.isOpen(auction.now)) {
                return i;
            }
        }
        return NONE;
    }

    private int countAdmitted(Rule rule) {
        int count = 0;
        for (int i = 0, hand = FIRST_HAND; i < ALL_HANDS; i++, hand = Cards.handAfter(hand)) {
            if (rule.admits(Cards.profile(hand))) {
                count++;
            }
        }
        return count;
    }

    /** Counts the hands whose rule at a position is this one; NONE counts those that have none. */
    private int countWithRule(Position position, int number) {
        int count = 0;
        for (int i = 0, hand = FIRST_HAND; i < ALL_HANDS; i++, hand = Cards.handAfter(hand)) {
            if (firstRule(position, Cards.profile(hand)) == number) {
                count++;
            }
        }
        return count;
    }

    private boolean fitsAuction(int partner, int hand) {
        int profile = Cards.profile(hand);
        for (int i = partner; i < auction.calls.size(); i += 2) {
            MadeCall made = auction.calls.get(i);
            if (firstRule(made.before, profile) != made.rule) {
                return false;
            }
        }
        if (auction.stuck && auction.turn() == partner) {
            return firstRule(auction.now, profile) == NONE;
        }
        return true;
    }

    /** Whether a hand is one of those that a partner may have if the known cards are elsewhere. */
    private boolean isHidden(int partner, int known, int hand) {
        return (hand & known) == 0 && fitsAuction(partner, hand);
    }

    private int countHidden(int partner, int known) {
        int count = 0;
        for (int i = 0, hand = FIRST_HAND; i < ALL_HANDS; i++, hand = Cards.handAfter(hand)) {
            if (isHidden(partner, known, hand)) {
                count++;
            }
        }
        return count;
    }

    private long sumOfTricks(int partner, int strain) {
        int own = handOf(partner);
        long sum = 0;
        for (int i = 0, hand = FIRST_HAND; i < ALL_HANDS; i++, hand = Cards.handAfter(hand)) {
            if (isHidden(1 - partner, own, hand)) {
                sum += Cards.tricksOf(strain, own, hand);
            }
        }
        return sum;
    }

    /** What sets of cards tell; a set is a bit mask. */
    private static final class Cards {
        // The four cards of rank 0; shifted by a rank they are those of that rank.
        private static final int RANK_0 = 1 | (1 << 5) | (1 << 10) | (1 << 15);

        static boolean isSet(int cards) {
            return cards >= 0 && cards <= PACK;
        }

        static boolean isHand(int cards) {
            return isSet(cards) && Integer.bitCount(cards) == HAND_SIZE;
        }

        /** The next greater number with as many bits: from FIRST_HAND on, all hands in ascending order. */
        static int handAfter(int hand) {
            int carried = hand + (hand & -hand);
            return carried | ((hand ^ carried) >>> (2 + Integer.numberOfTrailingZeros(hand)));
        }

        /** The card, as a set, that has this number among the cards in ascending order. */
        static int cardAt(int cards, int number) {
            int left = cards;
            for (int i = 0; i < number; i++) {
                left = left & (left - 1);
            }
            return left & -left;
        }

        static int ofSuit(int cards, int suit) {
            return (cards >> (RANKS * suit)) & ((1 << RANKS) - 1);
        }

        static int measure(int hand, int what) {
            return what == STRENGTH ? strength(hand) : Integer.bitCount(ofSuit(hand, what));
        }

        static int greatestMeasure(int what) {
            return what == STRENGTH ? 20 : HAND_SIZE;
        }

        private static int strength(int hand) {
            int sum = 0;
            for (int rank = 1; rank < RANKS; rank++) {
                sum += rank * Integer.bitCount(hand & (RANK_0 << rank));
            }
            return sum;
        }

        /** All measures of a hand in one number, as Rule.admits() compares them. */
        static int profile(int hand) {
            int profile = strength(hand) << (Rule.WIDTH * STRENGTH);
            for (int suit = 0; suit < SUITS; suit++) {
                profile |= Integer.bitCount(ofSuit(hand, suit)) << (Rule.WIDTH * suit);
            }
            return profile;
        }

        /** What one hand alone would let shown() answer. */
        static int shownNumber(int hand, int what) {
            return what >= 2 * MEASURES ? hand : measure(hand, what / 2);
        }

        /** What shown() answers for hands that have the one number and a hand that has the other. */
        static int joinShown(int found, int number, int what) {
            if (what == 2 * MEASURES) {
                return found & number;
            }
            if (what > 2 * MEASURES) {
                return found | number;
            }
            return what % 2 == 0 ? Math.min(found, number) : Math.max(found, number);
        }

        static int tricksOf(int strain, int one, int other) {
            int tricks = 0;
            for (int suit = 0; suit < SUITS; suit++) {
                tricks += winners(ofSuit(one, suit), ofSuit(other, suit));
                if (strain != NO_TRUMPS && suit != strain) {
                    tricks += ruffs(one, other, suit, strain) + ruffs(other, one, suit, strain);
                }
            }
            return Math.min(tricks, MOST_TRICKS);
        }

        private static int winners(int one, int other) {
            int both = one | other;
            int count = 0;
            for (int rank = RANKS - 1; rank >= 0 && ((both >> rank) & 1) == 1; rank--) {
                count++;
            }
            return Math.min(count, Math.max(Integer.bitCount(one), Integer.bitCount(other)));
        }

        /** The ruffs, 0 or 1, of the hand that may be short of the suit. */
        private static int ruffs(int brief, int other, int suit, int trumps) {
            boolean canRuff = ofSuit(brief, suit) == 0 && ofSuit(brief, trumps) != 0;
            return canRuff && ofSuit(other, suit) != 0 ? 1 : 0;
        }
    }

    /** A rule; its number is its place among the rules. */
    private static final class Rule {
        // A measure has WIDTH bits in a profile, of which the highest one is always 0.
        private static final int WIDTH = 6;
        private static final int FIELD = 31;
        private static final int SPARE_BITS = (1 << 5) | (1 << 11) | (1 << 17) | (1 << 23) | (1 << 29);
        private static final int LONGEST_LENGTHS = 5 | (5 << 6) | (5 << 12) | (5 << 18);

        private int state;
        private int call;
        private int next;
        private int force;
        private int least = 0;
        private int greatest = LONGEST_LENGTHS | (20 << (WIDTH * STRENGTH));

        Rule(int state, int call, int next, int force) {
            this.state = state;
            this.call = call;
            this.next = next;
            this.force = force;
        }

        void setRange(int what, int low, int high) {
            int shift = WIDTH * what;
            least = (least & ~(FIELD << shift)) | (low << shift);
            greatest = (greatest & ~(FIELD << shift)) | (high << shift);
        }

        /** The numbers in the order of part(). */
        int number(int what) {
            switch (what) {
                case 0:
                    return state;
                case 1:
                    return call;
                case 2:
                    return next;
                case 3:
                    return force;
                default:
                    return ((what % 2 == 0 ? least : greatest) >> (WIDTH * (what / 2 - 2))) & FIELD;
            }
        }

        /** A difference of two measures that is below 0 borrows its spare bit, so all are compared at once. */
        boolean admits(int profile) {
            int above = (profile | SPARE_BITS) - least;
            int below = (greatest | SPARE_BITS) - profile;
            return (above & below & SPARE_BITS) == SPARE_BITS;
        }

        boolean isOpen(Position position) {
            if (state != position.state) {
                return false;
            }
            // NONE is less than every bid, so without a last bid every bid is open.
            return call == PASS ? position.force == 0 : call > position.last;
        }
    }

    /** What decides which rules are open: the state, the last bid (or NONE), and whether the partner is forced. */
    private static final class Position {
        private final int state;
        private final int last;
        private final int force;

        Position(int state, int last, int force) {
            this.state = state;
            this.last = last;
            this.force = force;
        }
    }

    /** A call of the auction, with its rule's number and the position in which it was made. */
    private static final class MadeCall {
        private final int call;
        private final int rule;
        private final Position before;

        MadeCall(int call, int rule, Position before) {
            this.call = call;
            this.rule = rule;
            this.before = before;
        }

        /** The numbers in the order of made(). */
        int number(int what) {
            switch (what) {
                case 0:
                    return call;
                case 1:
                    return rule;
                case 2:
                    return before.state;
                default:
                    return before.force;
            }
        }
    }

    /** The calls so far, and the position after them. */
    private static final class Auction {
        private final ArrayList<MadeCall> calls = new ArrayList<>();
        private final Position start = new Position(0, NONE, 0);
        private Position now = start;
        private boolean stuck = false;

        void restart() {
            calls.clear();
            now = start;
            stuck = false;
        }

        int turn() {
            return calls.size() % 2;
        }

        boolean isOver() {
            return stuck || hasPass() || calls.size() >= MOST_CALLS;
        }

        private boolean hasPass() {
            int size = calls.size();
            return size > 0 && calls.get(size - 1).call == PASS;
        }

        /** The number that state(5) answers. */
        int ending() {
            if (stuck) {
                return 2;
            }
            return isOver() ? 1 : 0;
        }

        void add(Rule rule, int number) {
            calls.add(new MadeCall(rule.call, number, now));
            if (rule.call != PASS) {
                now = new Position(rule.next, rule.call, rule.force);
            }
        }

        /** Takes back being stuck, or else the latest call; answers false if there is neither. */
        boolean takeBack() {
            if (stuck) {
                stuck = false;
                return true;
            }
            int size = calls.size();
            if (size == 0) {
                return false;
            }
            now = calls.get(size - 1).before;
            calls.remove(size - 1);
            return true;
        }
    }

    /**
     * Reads one rule from a text. Each reading function goes on behind what it read, or fails
     * and leaves the index where the fault is.
     */
    private static final class RuleReader {
        private static final int FAILED = -1;

        private final StringBuilder text;
        private final Rule rule = new Rule(0, 0, 0, 0);
        private int at = 0;
        private int limited = 0;

        RuleReader(StringBuilder text) {
            this.text = text;
        }

        boolean readsWhole() {
            if (!readsHead()) {
                return false;
            }
            for (int i = 0; i < MOST_CHARACTERS && at < text.length(); i++) {
                int what = readKind();
                if (what == FAILED || !readsRange(what)) {
                    return false;
                }
            }
            return at == text.length();
        }

        private boolean readsHead() {
            rule.state = readDigit(0, GREATEST_STATE);
            if (rule.state == FAILED || !reads(':')) {
                return false;
            }
            rule.call = readCall();
            if (rule.call == FAILED || !reads('>')) {
                return false;
            }
            rule.next = readDigit(0, GREATEST_STATE);
            if (rule.next == FAILED) {
                return false;
            }
            rule.force = reads('!') ? 1 : 0;
            return true;
        }

        private int readCall() {
            if (reads('p')) {
                return PASS;
            }
            int tricks = readDigit(1, MOST_TRICKS);
            if (tricks == FAILED) {
                return FAILED;
            }
            int strain = sign() == 'n' ? NO_TRUMPS : suitOfSign();
            if (strain == FAILED) {
                return FAILED;
            }
            at++;
            return (tricks - 1) * 5 + strain;
        }

        /** Reads how a condition begins, and answers the measure that it is on. */
        private int readKind() {
            if (!reads(',')) {
                return FAILED;
            }
            int what = sign() == '+' ? STRENGTH : suitOfSign();
            if (what == FAILED || ((limited >> what) & 1) == 1) {
                return FAILED;
            }
            at++;
            limited |= 1 << what;
            return what;
        }

        private boolean readsRange(int what) {
            int most = Cards.greatestMeasure(what);
            int low = readNumber(most);
            if (low == FAILED || !reads('-')) {
                return false;
            }
            int high = readNumber(most);
            if (high == FAILED) {
                return false;
            }
            if (high < low) {
                // The fault is the last digit of the number that has just been read.
                at--;
                return false;
            }
            rule.setRange(what, low, high);
            return true;
        }

        /** Takes only digits that can belong to the number, so a leading 0 is a number by itself. */
        private int readNumber(int most) {
            int number = readDigit(0, Math.min(most, 9));
            if (number <= 0) {
                return number;
            }
            int second = readDigit(0, Math.min(most - 10 * number, 9));
            return second == FAILED ? number : 10 * number + second;
        }

        private int readDigit(int least, int most) {
            int digit = sign() - '0';
            if (digit < least || digit > most) {
                return FAILED;
            }
            at++;
            return digit;
        }

        private boolean reads(char due) {
            if (sign() != due) {
                return false;
            }
            at++;
            return true;
        }

        private int suitOfSign() {
            switch (sign()) {
                case 'c':
                    return 0;
                case 'd':
                    return 1;
                case 'h':
                    return 2;
                case 's':
                    return 3;
                default:
                    return FAILED;
            }
        }

        /** The character at the index; behind the text a number that is no character. */
        private int sign() {
            if (at < 0 || at >= text.length()) {
                return FAILED;
            }
            return text.charAt(at);
        }
    }
}
