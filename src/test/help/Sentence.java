/** The sentence of the document that is looked at now, and how many answers were not as it says. */
final class Sentence {
    private static final int SHOWN = 40;
    private static final Document DOCUMENT = new Document();
    private static String now = "no sentence";
    private static int looked = 0;
    private static int wrong = 0;

    private Sentence() { }

    static void ofTerms(String words) {
        now = words;
        looked++;
        if (!DOCUMENT.termsSay(words)) {
            fault("the terms don't say this");
        }
    }

    static void ofPromise(String call, String words) {
        now = call + ": " + words;
        looked++;
        if (!DOCUMENT.promiseSays(call, words)) {
            fault("the promise doesn't say this");
        }
    }

    static Document document() {
        return DOCUMENT;
    }

    static void fault(String text) {
        wrong++;
        if (wrong <= SHOWN) {
            System.out.println("[" + now + "] " + text);
        }
    }

    /** The end of a test's main: it fails if there was a fault, or if nothing was looked at. */
    static void end() {
        System.out.println(looked + " sentences looked at, " + wrong + " faults");
        if (wrong != 0 || looked == 0) {
            System.exit(1);
        }
    }
}
