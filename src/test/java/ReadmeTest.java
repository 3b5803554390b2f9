import java.io.IOException;
import java.nio.file.Files;
import java.nio.file.Path;
import java.util.TreeSet;
import java.util.regex.Matcher;
import java.util.regex.Pattern;

/** Each call that README.md shows is answered as README.md says, and it shows every call of the document. */
public final class ReadmeTest {
    private static final String NEW = "CabinetBooks books = new CabinetBooks();";
    private static final Pattern CALL = Pattern.compile("books\\.(\\w+\\(.*?\\)); +// (-?\\d+)\\b.*");
    private static int wrong = 0;
    private static int asked = 0;

    public static void main(String[] args) throws IOException {
        String text = Files.readString(Path.of("README.md"));
        TreeSet<String> left = new TreeSet<>();
        Sentence.document().calls().forEach(left::add);
        // Promise 1 is called "A new object": its first word is no call.
        left.remove("A");
        Matcher block = Pattern.compile("(?s)```java\n(.*?)```").matcher(text);
        while (block.find()) {
            askAll(block.group(1).split("\n"), left);
        }
        if (!left.isEmpty()) {
            fault("README.md doesn't show " + left);
        }
        System.out.println(asked + " calls of README.md made, " + wrong + " faults");
        if (wrong != 0 || asked == 0) {
            System.exit(1);
        }
    }

    private static void fault(String text) {
        wrong++;
        System.out.println(text);
    }

    private static void askAll(String[] lines, TreeSet<String> left) {
        if (!lines[0].equals(NEW)) {
            fault("not how a block begins: " + lines[0]);
        }
        Run run = Books.empty();
        for (int n = 1; n < lines.length; n++) {
            Matcher line = CALL.matcher(lines[n]);
            if (line.matches()) {
                ask(run, line.group(1), Integer.parseInt(line.group(2)));
                left.remove(Run.nameOf(line.group(1)));
            } else {
                fault("not a call with its answer: " + lines[n]);
            }
        }
    }

    private static void ask(Run run, String call, int told) {
        asked++;
        int got = run.answer(inDecimals(call));
        if (got != told) {
            fault("README.md says " + told + " of " + call + ", the class answers " + got);
        }
    }

    private static String inDecimals(String call) {
        return Pattern.compile("0b([01]+)").matcher(call).replaceAll(m -> "" + Integer.parseInt(m.group(1), 2));
    }
}
