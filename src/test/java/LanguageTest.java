import java.io.IOException;
import java.lang.reflect.Constructor;
import java.lang.reflect.Field;
import java.lang.reflect.Method;
import java.lang.reflect.Modifier;
import java.nio.file.Files;
import java.nio.file.Path;
import java.util.List;
import java.util.TreeSet;
import java.util.regex.Matcher;
import java.util.regex.Pattern;

/** What of LANGUAGE.md can be seen from the source and from the compiled class; run from the project's root. */
public final class LanguageTest {
    private static final List<String> FACE = List.of(
            "means(int,int)", "sense(int)", "year(int,int)", "entry(int,int,int,int,int)", "set(int,int)",
            "bar(int,int,int,int)", "like(int,int,int,int)", "join(int,int)", "joined(int,int,int)",
            "bests(int,int)", "sure(int,int,int)", "chain(int,int,int,int)", "copied(int,int,int)",
            "sight(int,int,int,int)", "move(int,int,int,int,int)", "withdraw(boolean,int,int)",
            "where(int,int,int)", "quarrels(int,int)", "holds(int,int,int,int)", "since(int,int,int)",
            "visitor(int,int,int,int)", "shelf(int)", "row(int,int)", "quarrel(int)", "part(int,int)",
            "clash(int,int,boolean)", "fake(int)", "least(int)", "count(int)");
    private static final List<String> FORBIDDEN = List.of(
            "throw", "throws", "try", "catch", "finally", "synchronized", "assert", "import", "package", "System",
            "Exact", "hashCode", "toString", "protected", "Object", "Thread", "Random", "goto", "native");
    private static int wrong = 0;

    private static void fault(String text) {
        wrong++;
        System.out.println(text);
    }

    public static void main(String[] args) throws IOException {
        face();
        for (Class<?> inner : CabinetBooks.class.getDeclaredClasses()) {
            insideClass(inner);
        }
        source(Files.readString(Path.of("src/main/java/CabinetBooks.java")));
        System.out.println(wrong == 0 ? "the class keeps to the language" : wrong + " faults");
        if (wrong != 0) {
            System.exit(1);
        }
    }

    private static String nameOf(Method m) {
        StringBuilder name = new StringBuilder(m.getName()).append('(');
        for (Class<?> type : m.getParameterTypes()) {
            name.append(name.charAt(name.length() - 1) == '(' ? "" : ",").append(type.getSimpleName());
        }
        return name.append(')').toString();
    }

    private static void face() {
        Class<?> c = CabinetBooks.class;
        if (!Modifier.isFinal(c.getModifiers()) || !Modifier.isPublic(c.getModifiers())) {
            fault("the class is not public and final");
        }
        TreeSet<String> left = new TreeSet<>(FACE);
        for (Method m : c.getDeclaredMethods()) {
            if (Modifier.isPublic(m.getModifiers())) {
                if (!left.remove(nameOf(m)) || m.getReturnType() != int.class || Modifier.isStatic(m.getModifiers())) {
                    fault("not of the face: " + m);
                }
            } else {
                hiddenMethod(m, true);
            }
        }
        if (!left.isEmpty()) {
            fault("the face lacks " + left);
        }
        Constructor<?>[] makers = c.getDeclaredConstructors();
        if (makers.length != 1 || !Modifier.isPublic(makers[0].getModifiers()) || makers[0].getParameterCount() != 0) {
            fault("the constructor is another one");
        }
        for (Field f : c.getDeclaredFields()) {
            if (!Modifier.isPrivate(f.getModifiers())) {
                fault("field not private: " + f);
            }
        }
        fields(c);
        if (c.getDeclaredClasses().length > 11) {
            fault("too many classes");
        }
    }

    private static void insideClass(Class<?> inner) {
        int mods = inner.getModifiers();
        if (!Modifier.isStatic(mods) || Modifier.isPublic(mods) || Modifier.isProtected(mods)) {
            fault("class inside not private and static: " + inner);
        }
        for (Method m : inner.getDeclaredMethods()) {
            hiddenMethod(m, false);
        }
        fields(inner);
    }

    private static void hiddenMethod(Method m, boolean mustBePrivate) {
        if (m.isSynthetic()) {
            fault("made by a lambda or an inner class: " + m);
        }
        if (mustBePrivate && !Modifier.isPrivate(m.getModifiers())) {
            fault("method not private: " + m);
        }
        if (m.getParameterCount() > 7) {
            fault("too many parameters: " + m);
        }
        for (String open : FACE) {
            if (open.startsWith(m.getName() + "(")) {
                fault("bears the name of a public one: " + m);
            }
        }
    }

    private static void fields(Class<?> c) {
        int own = 0;
        for (Field f : c.getDeclaredFields()) {
            if (!Modifier.isStatic(f.getModifiers())) {
                own++;
            } else if (!Modifier.isFinal(f.getModifiers())) {
                fault("static field not final: " + f);
            }
        }
        if (own > 20) {
            fault("too many fields: " + c);
        }
    }

    private static void source(String text) {
        String bare = text.replaceAll("(?s)/\\*.*?\\*/", "").replaceAll("//[^\n]*", "");
        for (String word : FORBIDDEN) {
            if (Pattern.compile("\\b" + word + "\\b").matcher(bare).find()) {
                fault("forbidden: " + word);
            }
        }
        if (bare.contains("->") || bare.contains("::") || bare.contains("\"")) {
            fault("a lambda, a method reference or a text");
        }
        Matcher library = Pattern.compile("\\b(Math|Integer|Long)\\.(\\w+)").matcher(bare);
        while (library.find()) {
            if (!List.of("max", "min", "abs", "bitCount").contains(library.group(2))) {
                fault("library: " + library.group());
            }
        }
        for (char sign : text.toCharArray()) {
            if (sign > 126 || sign < 32 && sign != '\n') {
                fault("sign " + (int) sign);
            }
        }
        methodLengths(text.split("\n"));
    }

    private static void methodLengths(String[] lines) {
        Pattern head = Pattern.compile("( {4}| {8})(?!if|for|while|switch|return)\\w[\\w\\[\\] ]*\\(.*\\) \\{");
        for (int n = 0; n < lines.length; n++) {
            Matcher m = head.matcher(lines[n]);
            if (m.matches()) {
                int end = n;
                while (end < lines.length && !lines[end].equals(m.group(1) + "}")) {
                    end++;
                }
                if (end - n >= 60) {
                    fault("too long: " + lines[n].trim());
                }
            }
        }
    }
}
