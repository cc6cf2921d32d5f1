import java.io.IOException;
import java.nio.charset.StandardCharsets;
import java.nio.file.Files;
import java.nio.file.Path;

/** The example of README.md: its calls have the answers that stand behind them. */
public final class ReadmeTest extends Checks {
    private static final StringBuilder EXAMPLE = new StringBuilder();

    /** A call as it stands in README.md, and what it answers. */
    private static void told(String call, long answer) {
        EXAMPLE.append(call).append("; // ").append(answer).append('\n');
    }

    private static void rules(BidLanguage x) {
        told("x.rule(0, 0, 1, 1)", x.rule(0, 0, 1, 1));
        told("x.limit(0, 0, 3, 5)", x.limit(0, 0, 3, 5));
        told("x.limit(0, 4, 10, 20)", x.limit(0, 4, 10, 20));
        told("x.rule(0, BidLanguage.PASS, 0, 0)", x.rule(0, BidLanguage.PASS, 0, 0));
        told("x.put(0x313A31643EL)", x.put(0x313A31643EL));
        told("x.put(0x322C64332D35L)", x.put(0x322C64332D35L));
        told("x.fault()", x.fault());
        told("x.load()", x.load());
        told("x.reach(1)", x.reach(1));
        told("x.holes(1, 0, 1)", x.holes(1, 0, 1));
    }

    private static void auction(BidLanguage x) {
        told("x.draw(71)", x.draw(71));
        told("x.call()", x.call());
        told("x.call()", x.call());
        told("x.hands(0, x.hand(1, 0))", x.hands(0, x.hand(1, 0)));
        told("x.shown(0, x.hand(1, 0), 8)", x.shown(0, x.hand(1, 0), 8));
        told("x.contract(1)", x.contract(1));
        told("x.make(BidLanguage.PASS)", x.make(BidLanguage.PASS));
        told("x.back()", x.back());
    }

    /** The lines of the example, each as its call and the number behind it. */
    private static String written() throws IOException {
        String text = Files.readString(Path.of("README.md"), StandardCharsets.US_ASCII);
        String[] parts = text.split("```java\n|```");
        StringBuilder lines = new StringBuilder();
        for (String part : parts) {
            if (part.startsWith("x.")) {
                lines.append(part.replaceAll("(?m); +// (-?[0-9]+).*$", "; // $1"));
            }
        }
        return lines.toString();
    }

    public static void main(String[] args) throws IOException {
        BidLanguage x = new BidLanguage();
        rules(x);
        auction(x);
        dueText("the example of README.md", written(), EXAMPLE.toString());
        finish("ReadmeTest");
    }
}
