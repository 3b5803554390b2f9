import java.io.IOException;
import java.nio.file.Files;
import java.nio.file.Path;
import java.util.ArrayList;
import java.util.LinkedHashMap;
import java.util.List;
import java.util.Map;
import java.util.regex.Matcher;
import java.util.regex.Pattern;

/** The document itself, so that a test can't quote what isn't there, nor leave out a refusal that is. */
final class Document {
    private static final Path WHERE = Path.of("../shared/DOC.md");
    private final String terms;
    private final Map<String, String> promises = new LinkedHashMap<>();

    Document() {
        String text;
        try {
            text = Files.readString(WHERE).replaceAll("\\s+", " ");
        } catch (IOException e) {
            throw new IllegalStateException("no document at " + WHERE, e);
        }
        // What stands ahead of the promises is one part here: the 512 calls are told there, too.
        terms = text.substring(0, text.indexOf("## Promise 1:"));
        Matcher m = Pattern.compile("## Promise \\d+: (\\w+)(.*?)(?=## )").matcher(text);
        while (m.find()) {
            promises.put(m.group(1), m.group(2));
        }
    }

    boolean termsSay(String words) {
        return terms.contains(words);
    }

    boolean promiseSays(String call, String words) {
        return promises.getOrDefault(call, "").contains(words);
    }

    Iterable<String> calls() {
        return promises.keySet();
    }

    /** The numbers of the refusals that a call knows, in the order in which its promise tells them. */
    List<Integer> refusalsOf(String call) {
        List<Integer> found = new ArrayList<>();
        String text = promises.getOrDefault(call, "");
        // count tells of the numbers, but refuses nothing.
        if (call.equals("count")) {
            return found;
        }
        if (text.contains("Refused as shelf()")) {
            return refusalsOf("shelf");
        }
        Matcher m = Pattern.compile("-[1-6]\\b").matcher(text);
        while (m.find()) {
            found.add(Integer.parseInt(m.group()));
        }
        return found;
    }
}
