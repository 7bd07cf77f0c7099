import java.nio.file.Files;
import java.nio.file.Path;
import java.util.HashMap;
import java.util.HashSet;
import java.util.Map;
import java.util.Set;
import java.util.TreeSet;
import java.util.regex.Matcher;
import java.util.regex.Pattern;

/** Rules of LANGUAGE.md that show in the text of Publicanry.java, by their numbers there. */
final class LanguageTest {
    private static final Set<String> THROWN = Set.of("IllegalStateException", "IllegalArgumentException",
        "IndexOutOfBoundsException", "ArithmeticException", "UnsupportedOperationException", "NoSuchElementException",
        "RuntimeException");
    private static final Set<String> OF_LIBRARY = Set.of("String", "StringBuilder", "Math", "Override");
    private static final Pattern METHOD = Pattern.compile(
        "\\n( +)(?:(?:public|private|static|final) )+(?:[\\w\\[\\]]+ )?(\\w+)\\(([^)]*)\\)[^;{]*\\{\\n");
    private static final Pattern CALL = Pattern.compile("(?<!new )\\b([a-z]\\w*)\\(");

    private final String text;
    private final Map<String, String> bodies = new HashMap<>();
    private final Map<String, Integer> depths = new HashMap<>();

    private LanguageTest(String text) {
        this.text = text;
    }

    static void run(String path) throws Exception {
        String written = Files.readString(Path.of(path));
        LanguageTest test = new LanguageTest(withoutTexts(written));
        test.readMethods();
        test.classesAreKept();
        test.namesAreKept();
        test.throwsAreWritten(written);
        test.loopsHaveAnEnd();
        test.callsGoEightDeep();
        test.noStaticStateIsMade();
    }

    /** Comments and written texts left out, so that no word of them is taken for a name. */
    private static String withoutTexts(String written) {
        return written.replaceAll("(?s)/\\*.*?\\*/", "").replaceAll("//[^\\n]*", "").replaceAll("\"[^\"\\n]*\"", "\"\"");
    }

    private void readMethods() {
        Matcher method = METHOD.matcher(text);
        for (int from = 0; method.find(from); from = method.start() + 1) {
            String end = "\n" + method.group(1) + "}\n";
            String body = text.substring(method.end() - 1, text.indexOf(end, method.end() - 1) + 1);
            String name = method.group(2);
            Check.is("rule 11: lines of " + name, body.split("\n").length <= 60, true);
            Check.is("rule 11: parameters of " + name, method.group(3).split(",").length <= 7, true);
            boolean isMaking = Character.isUpperCase(name.charAt(0));
            Check.is("rule 6: a throw in the constructor " + name, isMaking && body.contains("throw"), false);
            Check.is("a name for one method alone: " + name, bodies.put(name, body) == null, true);
        }
        Check.is("methods are found", bodies.size() > 100, true);
    }

    private void classesAreKept() {
        Matcher kind = Pattern.compile("(?m)^ *([a-z ]*) (class|interface|enum|record) (\\w+)").matcher(text);
        int many = 0;
        while (kind.find()) {
            String want = kind.group(3).equals("Publicanry") ? "public final" : "private static final";
            Check.isText("rule 1: the class " + kind.group(3), kind.group(1), want);
            many++;
        }
        Check.is("rule 11: some twelve classes", many >= 1 && many <= 12, true);
    }

    /** Rules 3 and 4: every name that begins with a capital is a class of the file, a constant, or of the library's part. */
    private void namesAreKept() {
        Set<String> strange = new TreeSet<>();
        Matcher name = Pattern.compile("\\b[A-Z]\\w*").matcher(text);
        while (name.find()) {
            String one = name.group();
            boolean isConstant = one.equals(one.toUpperCase()) && text.contains("private static final int " + one + " = ");
            if (!isConstant && !OF_LIBRARY.contains(one) && !THROWN.contains(one) && !text.contains(" class " + one + " {")) {
                strange.add(one);
            }
        }
        Check.isText("rule 4: other names", strange.toString(), "[]");
        Matcher math = Pattern.compile("Math\\.(\\w+)").matcher(text);
        while (math.find()) {
            Check.is("rule 4: Math." + math.group(1), Set.of("min", "max").contains(math.group(1)), true);
        }
        for (String word : new String[] {"float", "try", "lambda", "instanceof", "assert", "synchronized", "native", "import",
            "package", "protected", "hashCode", "equals", "toCharArray"}) {
            Check.is("the word " + word, Pattern.compile("\\b" + word + "\\b").matcher(text).find(), false);
        }
    }

    private void throwsAreWritten(String written) {
        Matcher all = Pattern.compile("\\bthrow\\b").matcher(text);
        Matcher right = Pattern.compile("throw new (\\w+)\\(\"[ -~]*\"\\);").matcher(written);
        int many = 0;
        while (all.find()) {
            many++;
        }
        while (right.find()) {
            many--;
            Check.is("rule 6: " + right.group(1), THROWN.contains(right.group(1)), true);
        }
        Check.is("rule 6: throws that are written otherwise", many, 0);
    }

    /** Rule 9: each counts upwards to a bound, and nothing but its own head moves the counter. */
    private void loopsHaveAnEnd() {
        Matcher loop = Pattern.compile("\\b(for|while|do)\\b([^\\n]*)\\n").matcher(text);
        Pattern counted = Pattern.compile(" \\(int (\\w+) = \\d; \\1 <=? [^;]+; \\1\\+\\+\\) \\{");
        while (loop.find()) {
            Check.is("rule 9: " + loop.group().trim(), loop.group(1).equals("for") && counted.matcher(loop.group(2)).matches(), true);
        }
        for (String counter : new String[] {"k", "j", "what", "force"}) {
            Matcher moved = Pattern.compile("(?<!int )(?<![\\w.])" + counter + "( [-+*/]?= |--|\\+\\+(?!\\) \\{))").matcher(text);
            Check.is("rule 9: " + counter + " is moved elsewhere", moved.find(), false);
        }
    }

    /** Rules 8 and 11. */
    private void callsGoEightDeep() {
        for (String name : bodies.keySet()) {
            Check.is("rule 11: how deep " + name + " goes", depthOf(name, new HashSet<>()) <= 8, true);
        }
    }

    private int depthOf(String name, Set<String> open) {
        if (!open.add(name)) {
            return 1000;
        }
        Integer known = depths.get(name);
        int deepest = known == null ? 1 : known;
        Matcher call = CALL.matcher(known == null ? bodies.get(name) : "");
        while (call.find()) {
            if (bodies.containsKey(call.group(1))) {
                deepest = Math.max(deepest, 1 + depthOf(call.group(1), open));
            }
        }
        depths.put(name, deepest);
        open.remove(name);
        return deepest;
    }

    /** Rules 5, 7 and 12: what is made anew is made with a length that is written, and mostly in a constructor. */
    private void noStaticStateIsMade() {
        Check.is("rule 5: a static initialiser", Pattern.compile("\\bstatic \\{").matcher(text).find(), false);
        Matcher field = Pattern.compile("\\n +private static (?!final class)([^;({]*)[;=]").matcher(text);
        while (field.find()) {
            Check.is("rule 5: " + field.group(1), field.group(1).startsWith("final int "), true);
        }
        Matcher array = Pattern.compile("new \\w+\\[([^\\]]*)\\]").matcher(text);
        while (array.find()) {
            Check.is("rule 7: the length " + array.group(1), array.group(1).equals("DUTIES") || array.group(1).startsWith("MOST_"), true);
        }
        for (Map.Entry<String, String> one : bodies.entrySet()) {
            boolean isMaking = Character.isUpperCase(one.getKey().charAt(0));
            String made = one.getValue().replaceAll("new \\w+Exception\\(", "");
            Check.is("rule 12: made by " + one.getKey(), !isMaking && !one.getKey().equals("tell") && made.contains("new "), false);
        }
    }
}
