import java.lang.reflect.InvocationTargetException;
import java.lang.reflect.Method;
import java.util.ArrayList;
import java.util.List;
import java.util.TreeSet;

/** A book and the calls that made it, told as texts, so that the very same book can be made again. */
final class Run {
    private static final int MOST_CALLS = 512;
    private static final List<String> LOOKS = looks();
    /** All refusals that were asked for so far, as the call's name and the number. */
    static final TreeSet<String> SEEN = new TreeSet<>();

    private final List<String> told = new ArrayList<>();
    private final CabinetBooks book = new CabinetBooks();

    /** Makes calls of which none may be refused. */
    Run tell(String... calls) {
        for (String call : calls) {
            int got = answer(call);
            if (got < 0) {
                Sentence.fault(call + " answered " + got + ", which is no telling");
            }
        }
        return this;
    }

    /** Makes one call n times; # in it stands for 0, 1, 2 and so on. */
    Run tellTimes(int n, String call) {
        for (int k = 0; k < n; k++) {
            tell(call.replace("#", String.valueOf(k)));
        }
        return this;
    }

    Run due(String call, int want) {
        int got = answer(call);
        if (got != want) {
            Sentence.fault(call + " answered " + got + ", due is " + want + shown());
        }
        return this;
    }

    /** The call answers the number, and but for that number's count all looks as if it had not been made. */
    Run refused(String call, int number) {
        SEEN.add(nameOf(call) + " " + number);
        Run without = again();
        Run with = again();
        with.due(call, number);
        String counted = "count(" + (10 - number) + ")";
        for (String look : LOOKS) {
            int due = without.answer(look) + (look.equals(counted) ? 1 : 0);
            int got = with.answer(look);
            if (got != due) {
                Sentence.fault("behind the refused " + call + " " + look + " answered " + got + ", due is " + due);
            }
        }
        return this;
    }

    Run again() {
        Run other = new Run();
        for (String call : told) {
            other.answer(call);
        }
        return other;
    }

    int answer(String call) {
        told.add(call);
        if (told.size() > MOST_CALLS) {
            Sentence.fault("the test itself makes more than " + MOST_CALLS + " calls: " + call);
        }
        String[] texts = call.substring(call.indexOf('(') + 1, call.length() - 1).split(", ");
        Object[] values = new Object[texts.length];
        for (int n = 0; n < texts.length; n++) {
            boolean truth = texts[n].equals("true") || texts[n].equals("false");
            values[n] = truth ? Boolean.valueOf(texts[n]) : (Object) Integer.valueOf(texts[n]);
        }
        try {
            return (int) methodOf(nameOf(call)).invoke(book, values);
        } catch (InvocationTargetException e) {
            Sentence.fault(call + " threw " + e.getCause() + shown());
            return Integer.MIN_VALUE;
        } catch (IllegalAccessException e) {
            throw new IllegalStateException(call, e);
        }
    }

    static String nameOf(String call) {
        return call.substring(0, call.indexOf('('));
    }

    private static Method methodOf(String name) {
        for (Method m : CabinetBooks.class.getMethods()) {
            if (m.getName().equals(name)) {
                return m;
            }
        }
        throw new IllegalStateException("no call " + name);
    }

    private String shown() {
        return told.size() <= 12 ? " in " + told : " as call " + told.size();
    }

    /** Calls whose answers together tell what a book holds; what changes it stands behind what only asks. */
    private static List<String> looks() {
        List<String> found = new ArrayList<>();
        addTimes(found, 17, "count(#)");
        addTimes(found, 20, "sense(#)");
        for (String pair : List.of("0, 1", "0, 2", "0, 3", "1, 2", "1, 3", "2, 3")) {
            found.add("join(" + pair + ")");
            found.add("bests(" + pair + ")");
        }
        for (String call : List.of("where(#, 80000, 80000)", "quarrels(#, 80000)", "holds(#, 80000, 80000, 0)",
                "holds(#, 80000, 80000, 1)", "holds(#, 80000, 80000, 2)", "since(#, 80000, 80000)")) {
            addTimes(found, 12, call);
        }
        found.addAll(List.of("shelf(255)", "quarrel(255)", "shelf(4080)", "quarrel(4080)", "fake(1023)", "least(1023)"));
        addTimes(found, 20, "means(#, #)");
        addTimes(found, 4, "year(#, 1500)");
        found.addAll(List.of("set(0, 5)", "set(1, 1)"));
        addTimes(found, 10, "part(#, 0)");
        for (int a = 0; a < 6; a++) {
            addTimes(found, a, "clash(" + a + ", #, false)");
        }
        addTimes(found, 8, "withdraw(true, #, 80000)");
        addTimes(found, 8, "withdraw(false, #, 80000)");
        return found;
    }

    private static void addTimes(List<String> found, int n, String call) {
        for (int k = 0; k < n; k++) {
            found.add(call.replace("#", String.valueOf(k)));
        }
    }
}
