/** Texts, and the promises 25 to 28. */
public final class TextsEdgesTest extends Checks {
    private static final String FULL = "aaaaaaaabbbbbbbbccccccccddddddddeeeeeeeeffffffffgggggggghhhh";
    private static final String KINDS = "cdhs+";

    // ---- the form of a rule

    /** Each character behind the start can stand there, with the end behind it, or is the fault. */
    private static void dueOneOf(String start, String good, String end) {
        dueOneOf(start, good, end, "");
    }

    /** The same; but some other signs could stand there with another end, and are not asked. */
    private static void dueOneOf(String start, String good, String end, String others) {
        for (char sign = 33; sign < 127; sign++) {
            if (others.indexOf(sign) >= 0) {
                continue;
            }
            if (good.indexOf(sign) >= 0) {
                dueFault(start + sign + end, NONE);
            } else {
                dueFault(start + sign + end, start.length());
            }
        }
    }

    private static void heads() {
        sentence("Texts: a state is 0 to 7", x -> dueOneOf("", "01234567", ":1c>0"));
        sentence("Texts: behind the state stands a ':'", x -> dueOneOf("0", ":", "1c>0"));
        sentence("Texts: the tricks are 1 to 5", x -> dueOneOf("0:", "12345", "c>0", "p"));
        sentence("Texts: a call is 'p', which has no strain", x -> {
            dueFault("0:p>0", NONE);
            dueFault("0:pc>0", 3);
            dueFault("0:P>0", 2);
            dueFault("0:1p>0", 3);
            dueFault("0:>0", 2);
        });
        sentence("Texts: a strain is c, d, h, s or n", x -> dueOneOf("0:1", "cdhsn", ">0"));
        sentence("Texts: behind the call stands a '>'", x -> {
            dueOneOf("0:1c", ">", "0");
            dueOneOf("0:p", ">", "0");
        });
        sentence("Texts: the next state is 0 to 7", x -> dueOneOf("0:1c>", "01234567", ""));
        sentence("Texts: behind the next state stands '!', or ',', or nothing", x -> {
            dueFault("0:1c>0", NONE);
            dueOneOf("0:1c>0", "!", "", ",");
            dueOneOf("0:1c>0", ",", "c0-5", "!");
            dueFault("0:1c>0!", NONE);
        });
        sentence("Texts: behind '!' stands ',' or nothing, no second '!'", x -> {
            dueFault("0:1c>0!!", 7);
            dueOneOf("0:1c>0!", ",", "c0-5");
        });
    }

    private static void conditions() {
        sentence("Texts: a condition is on '+' or a suit", x -> {
            dueOneOf("0:1c>0,", "cdhs+", "1-2");
            dueOneOf("0:1c>0!,d1-1,", "chs+", "1-2");
        });
        sentence("Texts: a length is 0 to 5, the first number", x -> {
            for (char kind : "cdhs".toCharArray()) {
                dueOneOf("0:p>0," + kind, "012345", "-5");
            }
        });
        sentence("Texts: a length is 0 to 5, the second number", x -> {
            for (char kind : "cdhs".toCharArray()) {
                dueOneOf("0:p>0," + kind + "0-", "012345", "");
            }
        });
        sentence("Texts: a strength is 0 to 20, the first number", x -> {
            for (int number = 0; number <= 20; number++) {
                dueFault("0:p>0,+" + number + "-20", NONE);
            }
            dueFault("0:p>0,+21-22", 8);
            dueFault("0:p>0,+29-20", 8);
            dueFault("0:p>0,+30-20", 8);
            dueFault("0:p>0,+90-20", 8);
            dueFault("0:p>0,+100-20", 9);
            dueFault("0:p>0,+200-20", 9);
        });
        sentence("Texts: a strength is 0 to 20, the second number", x -> {
            for (int number = 0; number <= 20; number++) {
                dueFault("0:p>0,+0-" + number, NONE);
            }
            dueFault("0:p>0,+0-21", 10);
            dueFault("0:p>0,+0-29", 10);
            dueFault("0:p>0,+0-30", 10);
            dueFault("0:p>0,+0-90", 10);
            dueFault("0:p>0,+0-100", 11);
            dueFault("0:p>0,+0-200", 11);
        });
        sentence("Texts: only digits belong to a strength, at each place of a number", x -> {
            dueOneOf("0:p>0,+", "0123456789", "-20");
            dueOneOf("0:p>0,+1", "0123456789", "-20", "-");
            dueOneOf("0:p>0,+1-", "123456789", "");
            dueOneOf("0:p>0,+1-1", "0123456789", "", ",");
            dueOneOf("0:p>0,+1-20", ",", "c0-5");
        });
        sentence("Texts: between the numbers stands a '-'", x -> {
            dueOneOf("0:p>0,c1", "-", "2");
            dueFault("0:p>0,+1--2", 9);
            dueFault("0:p>0,+20:20", 9);
            dueFault("0:p>0,+-2", 7);
            dueFault("0:p>0,+1-,", 9);
        });
        sentence("Texts: behind a condition stands ',' or nothing", x -> {
            dueOneOf("0:p>0,c1-2", ",", "d0-5");
            dueFault("0:p>0,+1-20!", 11);
            dueFault("0:p>0,+1-20c", 11);
        });
    }

    private static void ordered() {
        sentence("Texts: the second number is not less than the first one: it may be the same", x -> {
            for (int number = 0; number <= 20; number++) {
                dueFault("0:p>0,+" + number + "-" + number, NONE);
            }
            for (int number = 0; number <= 5; number++) {
                dueFault("0:p>0,s" + number + "-" + number, NONE);
            }
        });
        sentence("Texts: the second number is not less than the first one, by one", x -> {
            dueFault("0:p>0,c1-0", 9);
            dueFault("0:p>0,d2-1", 9);
            dueFault("0:p>0,h4-3", 9);
            dueFault("0:p>0,s5-4", 9);
            dueFault("0:p>0,+9-8", 9);
            dueFault("0:p>0,+10-9", 10);
            dueFault("0:p>0,+11-10", 11);
            dueFault("0:p>0,+20-19", 11);
        });
        sentence("Texts: each condition stands once at most", x -> {
            for (char kind : KINDS.toCharArray()) {
                dueFault("0:p>0," + kind + "1-2," + kind + "1-2", 11);
                for (char other : KINDS.replace("" + kind, "").toCharArray()) {
                    dueFault("0:p>0," + kind + "1-2," + other + "1-2", NONE);
                    dueFault("0:p>0," + kind + "1-2," + other + "1-2," + kind, 16);
                    dueFault("0:p>0," + kind + "1-2," + other + "1-2," + other, 16);
                }
            }
        });
        sentence("Texts: none to five conditions, in any order", x -> {
            dueFault("0:p>0", NONE);
            dueFault("0:p>0,h0-0", NONE);
            dueFault("0:p>0,c1-2,d1-2,h1-2,s1-2,+1-2", NONE);
            dueFault("0:p>0,+10-20,s1-2,h1-2,d1-2,c1-2", NONE);
            dueFault("0:p>0!,d1-2,+10-20,c1-2,s1-2,h1-2", NONE);
            for (char kind : KINDS.toCharArray()) {
                dueFault("0:p>0,c1-2,d1-2,h1-2,s1-2,+1-2," + kind + "1-2", 31);
            }
        });
        sentence("Texts: numbers are without leading zeros (0 is one)", x -> {
            dueFault("0:p>0,+0-0", NONE);
            dueFault("0:p>0,c0-0", NONE);
            dueFault("0:p>0,+00-5", 8);
            dueFault("0:p>0,+05-9", 8);
            dueFault("0:p>0,c01-2", 8);
            dueFault("0:p>0,+0-00", 10);
            dueFault("0:p>0,+0-05", 10);
            dueFault("0:p>0,c0-01", 10);
            dueFault("00:p>0", 1);
            dueFault("0:01c>0", 2);
            dueFault("0:p>00", 5);
        });
    }

    // ---- the fault

    private static void faults() {
        sentence("Texts: the fault is the first one of several", x -> {
            dueFault("8:6x>9", 0);
            dueFault("0:6x>9", 2);
            dueFault("0:1x>9", 3);
            dueFault("0:1c>9", 5);
            dueFault("0:1c>0,c2-1,c6", 10);
            dueFault("0:1c>0,c1-2,c6", 12);
        });
        sentence("Texts: the fault is the digit by which a number would be too great", x -> {
            dueFault("0:p>0,c6-6", 7);
            dueFault("0:p>0,c10-11", 8);
            dueFault("0:p>0,c1-6", 9);
            dueFault("0:p>0,c0-10", 10);
            dueFault("0:p>0,+21-22", 8);
            dueFault("0:p>0,+2-21", 10);
            dueFault("0:p>0,+2-201", 11);
        });
        sentence("Texts: the fault is the last digit of a second number that is complete and less", x -> {
            dueFault("0:p>0,c3-2", 9);
            dueFault("0:p>0,c3-2,d1-2", 9);
            dueFault("0:p>0,+9-3,d1-2", 9);
            dueFault("0:p>0,+15-14", 11);
            dueFault("0:p>0,+15-14,d1-2", 11);
            dueFault("0:p>0,+15-14x", 11);
            dueFault("0:p>0,+20-1!", 10);
        });
        sentence("Texts: a number is complete only if no digit that could belong to it follows", x -> {
            dueFault("0:p>0,+10-1", 10);
            dueFault("0:p>0,+10-15", NONE);
            dueFault("0:p>0,+10-10", NONE);
            dueFault("0:p>0,+3-20", NONE);
            dueFault("0:p>0,+20-2", 10);
            dueFault("0:p>0,+20-20", NONE);
        });
        sentence("Texts: a number is complete if the digit that follows would make it too great", x -> {
            dueFault("0:p>0,+10-25", 10);
            dueFault("0:p>0,+10-21", 10);
            dueFault("0:p>0,+10-30", 10);
            dueFault("0:p>0,+10-99", 10);
            dueFault("0:p>0,+15-149", 11);
            dueFault("0:p>0,+15-159", 12);
            dueFault("0:p>0,+15-200", 12);
            dueFault("0:p>0,c2-10", 9);
            dueFault("0:p>0,c2-15", 9);
            dueFault("0:p>0,c1-10", 10);
        });
        sentence("Texts: a number is complete if it is 0, as it has no leading zeros", x -> {
            dueFault("0:p>0,+5-05", 9);
            dueFault("0:p>0,+5-06", 9);
            dueFault("0:p>0,c1-01", 9);
        });
        sentence("Texts: the fault is a '+' or suit that was there before, not what stands behind it", x -> {
            dueFault("0:p>0,+1-2,+", 11);
            dueFault("0:p>0,+1-2,+x", 11);
            dueFault("0:p>0,c1-2,c6", 11);
            dueFault("0:p>0,s1-2,d1-2,s1-2", 16);
        });
        sentence("Texts: if the text ends too early the fault is its length", x -> {
            String text = "7:5n>0!,+1-20,c0-5,d1-1,h2-4,s5-5";
            String complete = "6 7 12 13 18 23 28 33";
            for (int length = 0; length <= text.length(); length++) {
                boolean isRule = (" " + complete + " ").contains(" " + length + " ");
                dueFault(text.substring(0, length), isRule ? NONE : length);
            }
            dueFault("0:p", 3);
            dueFault("0:p>", 4);
            dueFault("0:p>0,+2", 8);
            dueFault("0:p>0,+20", 9);
            dueFault("0:p>0,+20-", 10);
        });
        sentence("Texts: the fault of the empty text is 0", x -> {
            due("fault", x.fault(), 0);
            due("load", x.load(), BAD_TEXT);
        });
    }

    // ---- put

    private static void putCharacters() {
        sentence("Promise 25: the lowest 8 bits are the last character", x -> {
            due("put", x.put(packed("6:2d>5!")), 7);
            due("load", x.load(), 0);
            dueParts(x, 0, 6, 6, 5, 1);
        });
        sentence("Promise 25: characters are appended behind those that are there", x -> {
            due("put of one", x.put('6'), 1);
            due("put of two", x.put(packed(":2")), 3);
            due("put of three", x.put(packed("d>5")), 6);
            due("put of eight", x.put(packed("!,+10-20")), 14);
            due("load", x.load(), 0);
            dueParts(x, 0, 6, 6, 5, 1, 0, 5, 0, 5, 0, 5, 0, 5, 10, 20);
        });
        sentence("Promise 25: 1 to 8 characters", x -> {
            for (int count = 1; count <= 8; count++) {
                x.wipe();
                due("put of " + count, x.put(packed("0:p>0,c1".substring(0, count))), count);
                due("fault", x.fault(), count == 5 ? NONE : count);
            }
        });
        sentence("Promise 25: BAD_VALUE if there is no character", x -> due("put", x.put(0), BAD_VALUE));
        sentence("Promise 25: a code is 33 to 126, at each of the eight places", unused -> {
            for (int place = 0; place < 8; place++) {
                BidLanguage x = new BidLanguage();
                long others = packed("AAAAAAAA") - ((long) 'A' << 8 * place);
                for (int code = 1; code < 256; code++) {
                    if (code < 33 || code > 126) {
                        due("code " + code + " at " + place, x.put(others + ((long) code << 8 * place)), BAD_VALUE);
                    }
                }
                due("code 33 at " + place, x.put(others + (33L << 8 * place)), 8);
                due("code 126 at " + place, x.put(others + (126L << 8 * place)), 16);
            }
        });
        sentence("Promise 25: a single code is 33 to 126", x -> {
            for (int code = 0; code < 256; code++) {
                x.wipe();
                due("code " + code, x.put(code), code < 33 || code > 126 ? BAD_VALUE : 1);
            }
        });
        sentence("Promise 25: above 8 bits that are 0 everything is 0", x -> {
            for (int gap = 0; gap < 7; gap++) {
                long below = gap == 0 ? 0 : packed("AAAAAAA".substring(0, gap));
                for (int bit = 8 * gap + 8; bit < 64; bit++) {
                    due("bit " + bit + " above " + gap, x.put(below | 1L << bit), BAD_VALUE);
                }
                due("a letter above " + gap, x.put(below | 65L << 8 * gap + 8), BAD_VALUE);
            }
            due("the pad", x.state(7), 0);
        });
    }

    private static void putLengths() {
        sentence("Promise 25: the pad is at most 60 characters, TOO_MANY if it would be longer", x -> {
            for (int length = 8; length <= 56; length += 8) {
                due("put of eight", x.put(packed("aaaaaaaa")), length);
            }
            due("put of eight too many", x.put(packed("aaaaaaaa")), TOO_MANY);
            due("put of five", x.put(packed("aaaaa")), TOO_MANY);
            due("put of four", x.put(packed("aaaa")), 60);
            due("put of one", x.put('a'), TOO_MANY);
            due("the pad", x.state(7), 60);
        });
        sentence("Promise 25: one character to the pad of 59 is not too many, two are", x -> {
            write(x, FULL.substring(0, 59));
            due("put of two", x.put(packed("aa")), TOO_MANY);
            due("put of one", x.put('a'), 60);
        });
        sentence("Promise 25: the pad of 60 can be read", x -> {
            write(x, FULL);
            due("fault", x.fault(), 0);
            write(x, "0:p>0,c1-2,d1-2,h1-2,s1-2,+10-20,,,,,,,,,,,,,,,,,,,,,,,,,,,,");
            due("fault", x.fault(), 33);
            due("load", x.load(), BAD_TEXT);
            due("the pad", x.state(7), 60);
        });
    }

    // ---- wipe, fault, load

    private static void wipeEdges() {
        sentence("Promise 26: returns the length that it had, 0 to 60", x -> {
            due("of the empty pad", x.wipe(), 0);
            write(x, "a");
            due("of one character", x.wipe(), 1);
            write(x, FULL);
            due("of the full pad", x.wipe(), 60);
            due("again", x.wipe(), 0);
        });
        sentence("Promise 26: empties the pad", x -> {
            write(x, FULL);
            x.wipe();
            due("the pad", x.state(7), 0);
            due("fault", x.fault(), 0);
            due("put", x.put(packed("0:p>0")), 5);
            due("load", x.load(), 0);
        });
        sentence("Promise 26: the auction goes on", unused -> {
            BidLanguage x = busy();
            due("wipe", x.wipe(), 6);
            dueAuction("then", x, 2, 2, 9, 1, 0, 0);
        });
    }

    private static void faultEdges() {
        sentence("Promise 27: NONE if there is no fault, whatever rules there are", x -> {
            fill(x, 24);
            write(x, "0:1c>0");
            due("a call of its state is there, and 24 rules are", x.fault(), NONE);
        });
        sentence("Promise 27: returns the fault, 0 to the length of the pad", x -> {
            write(x, "x");
            due("the first character", x.fault(), 0);
            write(x, "0:1c>0,c1-2x");
            due("the last character", x.fault(), 11);
            write(x, "0:1c>0,c1-2,");
            due("behind the last character", x.fault(), 12);
        });
        sentence("Promise 27: the pad stays as it is", x -> {
            write(x, "0:p>0,c1-2,c");
            due("fault", x.fault(), 11);
            due("fault again", x.fault(), 11);
            due("the pad", x.state(7), 12);
        });
    }

    private static void loadEdges() {
        sentence("Promise 28: adds the rule with all that the pad says, the greatest numbers", x -> {
            write(x, "7:5n>7!,+20-20,c5-5,d5-5,h5-5,s5-5");
            due("load", x.load(), 0);
            dueParts(x, 0, 7, 24, 7, 1, 5, 5, 5, 5, 5, 5, 5, 5, 20, 20);
        });
        sentence("Promise 28: adds the rule with all that the pad says, the least numbers", x -> {
            write(x, "0:1c>0,+0-0,c0-0,d0-0,h0-0,s0-0");
            due("load", x.load(), 0);
            dueParts(x, 0, 0, 0, 0, 0, 0, 0, 0, 0, 0, 0, 0, 0, 0, 0);
        });
        sentence("Promise 28: what the pad does not say is 0 to 20, 0 to 5 for all suits, and not forced", x -> {
            write(x, "3:p>4");
            due("load", x.load(), 0);
            dueParts(x, 0, 3, PASS, 4, 0, 0, 5, 0, 5, 0, 5, 0, 5, 0, 20);
            write(x, "3:1c>4,h2-3");
            due("load", x.load(), 1);
            dueParts(x, 1, 3, 0, 4, 0, 0, 5, 0, 5, 2, 3, 0, 5, 0, 20);
        });
        sentence("Promise 28: behind all others; empties the pad", x -> {
            fill(x, 3);
            write(x, "0:5n>0");
            due("load", x.load(), 3);
            due("the pad", x.state(7), 0);
            due("load of the empty pad", x.load(), BAD_TEXT);
            dueCalls(x, 0, 0, 0, 24);
        });
        sentence("Promise 28: BAD_TEXT if the pad has a fault, also if it only ends too early", x -> {
            write(x, "0:1c>0,");
            due("load", x.load(), BAD_TEXT);
            due("the pad stays", x.state(7), 7);
            due("rules", x.state(6), 0);
        });
        sentence("Promise 28: TOO_MANY if there are 24 rules, not with 23; the pad stays", x -> {
            fill(x, 23);
            write(x, "0:5n>0");
            due("rule 23", x.load(), 23);
            write(x, "1:5n>0");
            due("rule 24", x.load(), TOO_MANY);
            due("the pad stays", x.state(7), 6);
            due("rules", x.state(6), 24);
        });
        sentence("Promise 28: NOT_POSSIBLE if a rule of its state has its call; the pad stays", x -> {
            fill(x, 3);
            write(x, "2:1c>5!,c1-1");
            due("the call of the last rule", x.load(), NOT_POSSIBLE);
            due("the pad stays", x.state(7), 12);
            due("rules", x.state(6), 3);
            due("the text is still there", x.fault(), NONE);
            x.remove(2);
            due("load then", x.load(), 2);
            dueParts(x, 2, 2, 0, 5, 1, 1, 1);
        });
        sentence("Promise 28: the same call in another state is possible", x -> {
            fill(x, 3);
            write(x, "3:1c>0");
            due("load", x.load(), 3);
        });
        sentence("Promise 28: the auction begins anew, also if it is stuck", unused -> {
            for (BidLanguage x : new BidLanguage[] {busy(), stuck(), passed(), twelve()}) {
                write(x, "6:1c>0");
                due("load", x.load(), x.state(6) - 1);
                dueAnew("load", x);
            }
        });
    }

    public static void main(String[] args) {
        heads();
        conditions();
        ordered();
        faults();
        putCharacters();
        putLengths();
        wipeEdges();
        faultEdges();
        loadEdges();
        finish("TextsEdgesTest");
    }
}
