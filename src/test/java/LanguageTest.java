import java.io.IOException;
import java.nio.file.Files;
import java.nio.file.Path;
import java.util.ArrayList;
import java.util.List;
import java.util.Set;
import java.util.TreeSet;
import java.util.regex.Matcher;
import java.util.regex.Pattern;

/**
 * The rules of ../shared/LANGUAGE.md as far as the text of the program shows them. What the program does not need is
 * left out here even where a rule leaves it (lists, texts, doubles, catches): this test widens when the program does.
 */
public final class LanguageTest {
    private static final String EXCEPTIONS =
            "IllegalStateException|IllegalArgumentException|IndexOutOfBoundsException|ArithmeticException"
            + "|UnsupportedOperationException|NoSuchElementException|RuntimeException";
    private static final Set<String> BARRED_WORDS = Set.of(
            "import", "package", "try", "catch", "finally", "synchronized", "assert", "native", "volatile",
            "transient", "strictfp", "double", "float", "instanceof", "yield", "var", "sealed",
            "protected", "equals", "hashCode", "toString", "getMessage", "getClass", "random", "nanoTime",
            "currentTimeMillis");
    private static final Set<String> LIBRARY = Set.of(
            "Integer.bitCount", "Math.max", "Math.min", "Math.abs");
    private static final int MOST_LINES = 60;
    private static final int MOST_PARAMETERS = 7;
    private static final int MOST_CLASSES = 12;
    private static final int MOST_FIELDS = 20;
    private static final Pattern CLASS = Pattern.compile("\\bclass (\\w+)");
    private static final Pattern HEAD = Pattern.compile("(?m)^ +[\\w\\[\\], ]*?(\\w+)\\(([^()]*)\\)[^;{}()]*\\{");

    private static String text;
    private static String code;
    private static final Set<String> classes = new TreeSet<>();

    public static void main(String[] args) throws IOException {
        text = Files.readString(Path.of("src/main/java/CastDesk.java"));
        code = withoutCommentsAndTexts(text);
        Matcher named = CLASS.matcher(code);
        while (named.find()) {
            classes.add(named.group(1));
        }
        Due.is("rule 11: classes", classes.size() <= MOST_CLASSES && classes.contains("CastDesk"), true);
        signs();
        words();
        names();
        classesInside();
        staticFields();
        exceptions();
        methods();
        fields();
        madeInConstructorsAlone();
        Due.end("LanguageTest");
    }

    /** The program without comments, and with each text's inside left out. */
    private static String withoutCommentsAndTexts(String source) {
        return source.replaceAll("(?s)/\\*.*?\\*/", " ").replaceAll("//[^\n]*", "").replaceAll("\"[^\"\n]*\"", "\"\"");
    }

    private static void none(String rule, String pattern) {
        Matcher found = Pattern.compile(pattern).matcher(code);
        Due.same(rule, found.find() ? found.group() : "", "");
    }

    /** Rules 3 and 4: signs 1 to 127 alone in constants (here in the whole file); texts are not joined by +. */
    private static void signs() {
        for (int place = 0; place < text.length(); place++) {
            Due.is("rule 4: a sign at " + place, text.charAt(place) >= 1 && text.charAt(place) <= 127, true);
        }
        none("rule 10: joined texts", "\"\" *\\+|\\+ *\"\"");
        none("rule 2: lambdas and method references", "->|::");
        none("rule 3: arrays of more than one dimension", "\\] *\\[");
        none("annotations", "@");
    }

    private static void words() {
        Matcher word = Pattern.compile("\\w+").matcher(code);
        while (word.find()) {
            Due.is("a barred word: " + word.group(), BARRED_WORDS.contains(word.group()), false);
        }
    }

    /** Rules 3 and 4: the names that begin with a capital are of own classes, constants, exceptions or the library. */
    private static void names() {
        Matcher name = Pattern.compile("\\b[A-Z]\\w*[a-z]\\w*\\b(\\.\\w+)?").matcher(code);
        while (name.find()) {
            String whole = name.group();
            String first = whole.split("\\.")[0];
            Due.is("rules 3 and 4: " + whole,
                    classes.contains(first) || first.matches(EXCEPTIONS) || LIBRARY.contains(whole), true);
        }
        Matcher big = Pattern.compile("\\b\\w+Exact\\b").matcher(code);
        Due.is("rule 4: no function whose name ends in Exact", big.find(), false);
    }

    /** Rules 1 and 2: one public class; the others are private or package-visible and static. */
    private static void classesInside() {
        for (String line : code.split("\n")) {
            if (CLASS.matcher(line).find()) {
                boolean isOuter = line.contains("class CastDesk");
                String due = isOuter ? "public final class \\w+ \\{" : " +private static final class \\w+ \\{";
                Due.is("rule 1: " + line.strip(), line.matches(due), true);
            }
        }
    }

    /** Rule 5: "Static fields are final", here numbers alone; no static initialiser block. */
    private static void staticFields() {
        for (String line : code.split("\n")) {
            if (line.matches(".*\\bstatic\\b.*;")) {
                Due.is("rule 5: " + line.strip(), line.matches(" +(public|private) static final int .*;"), true);
            }
        }
        none("rule 5: a static initialiser", "\\bstatic *\\{");
    }

    /** Rule 6: throw new E("a written text"), no other throw, and none in a constructor. */
    private static void exceptions() {
        Matcher thrown = Pattern.compile("\\bthrow\\b[^;]*;").matcher(code);
        int count = 0;
        while (thrown.find()) {
            count++;
            boolean isPlain = thrown.group().matches("throw new (" + EXCEPTIONS + ")\\((\"\")?\\);");
            Due.is("rule 6: " + thrown.group(), isPlain, true);
        }
        Due.is("rule 6: throws were found", count > 0, true);
    }

    private static void methods() {
        int count = 0;
        for (String[] method : bodies()) {
            count++;
            String name = method[0];
            Due.is("rule 11: lines of " + name, method[2].split("\n").length <= MOST_LINES, true);
            Due.is("rule 11: parameters of " + name, method[1].split(",").length <= MOST_PARAMETERS, true);
            if (classes.contains(name)) {
                Due.is("rule 6: a throw in the constructor " + name, method[2].contains("throw"), false);
            }
            for (String line : method[2].split("\n")) {
                boolean isLoop = line.matches(".*\\b(for|while|do)\\b.*");
                boolean hasBound = line.matches(" +for \\(int (\\w+) = [^;]+; \\1 <=? [^;]+; \\1\\+\\+\\) \\{");
                Due.is("rule 9: in " + name + ": " + line.strip(), hasBound, isLoop);
            }
            // Rule 8: the one function that calls itself carries its depth.
            boolean callsItself = Pattern.compile("(?<![.\\w])" + name + "\\(").matcher(method[2]).find();
            Due.is("rule 8: " + name + " calls itself", callsItself, name.equals("leastFrom"));
        }
        Due.is("rule 11: methods were found", count > 60, true);
    }

    /** The name, the parameters and the body of each method and constructor. */
    private static List<String[]> bodies() {
        List<String[]> all = new ArrayList<>();
        Matcher head = HEAD.matcher(code);
        while (head.find()) {
            if (!head.group(1).matches("if|for|while|switch|catch|else")) {
                all.add(new String[] {head.group(1), head.group(2), bodyFrom(head.end())});
            }
        }
        return all;
    }

    private static String bodyFrom(int start) {
        int open = 1;
        int end = start;
        while (end < code.length() && open > 0) {
            open += code.charAt(end) == '{' ? 1 : code.charAt(end) == '}' ? -1 : 0;
            end++;
        }
        return code.substring(start, end);
    }

    /** Rule 11: "a class some twenty fields beside its constants". */
    private static void fields() {
        List<Class<?>> all = new ArrayList<>(List.of(CastDesk.class.getDeclaredClasses()));
        all.add(CastDesk.class);
        Due.is("rule 11: classes in the text and made of it", all.size(), classes.size());
        for (Class<?> each : all) {
            int count = 0;
            for (java.lang.reflect.Field field : each.getDeclaredFields()) {
                count += java.lang.reflect.Modifier.isStatic(field.getModifiers()) ? 0 : 1;
            }
            Due.is("rule 11: fields of " + each.getSimpleName(), count <= MOST_FIELDS, true);
        }
    }

    /** Rule 12 and the one room of all calls: no method makes an object or an array, but for exceptions. */
    private static void madeInConstructorsAlone() {
        for (String[] method : bodies()) {
            if (!classes.contains(method[0])) {
                String rest = method[2].replaceAll("throw new \\w+", "");
                boolean makes = Pattern.compile("\\bnew\\b|\\bclone\\b").matcher(rest).find();
                Due.is("rule 12: " + method[0] + " makes something", makes, false);
            }
        }
    }
}
