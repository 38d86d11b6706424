import java.io.IOException;
import java.lang.reflect.Field;
import java.lang.reflect.Method;
import java.lang.reflect.Modifier;
import java.nio.file.Files;
import java.nio.file.Path;
import java.util.ArrayList;
import java.util.List;
import java.util.Set;
import java.util.TreeSet;
import java.util.regex.Matcher;
import java.util.regex.Pattern;

/** What of ../shared/LANGUAGE.md can be seen in the text of the class; FaceTest holds the rule 1. */
public final class FormTest {
    private static final Check CHECK = new Check("FormTest");
    private static final Path FILE = Path.of("src", "main", "java", "MondayFactory.java");

    private static final Set<String> EXCEPTIONS = Set.of("IllegalStateException", "IllegalArgumentException",
        "IndexOutOfBoundsException", "ArithmeticException", "UnsupportedOperationException",
        "NoSuchElementException", "RuntimeException");
    private static final Set<String> LIBRARY = Set.of("String", "StringBuilder", "ArrayList", "List", "Integer", "Long",
        "Math", "System", "Arrays", "Iterator", "Iterable", "Comparable");
    private static final String FUNCTIONS = "System\\.arraycopy|Arrays\\.(copyOf|copyOfRange|fill)|List\\.of"
        + "|(Math|Integer|Long)\\.(compare|max|min|abs|bitCount|floorDiv|floorMod|signum)";
    private static final Set<Class<?>> CONSTANTS = Set.of(int.class, long.class, boolean.class, char.class,
        String.class, int[].class, long[].class, char[].class, byte[].class);

    /** Words and signs that the rules leave no room for; the class has no need to catch, either. */
    private static final String[] RULED_OUT = {"\\bpackage\\b", "\\bprotected\\b", "->", "::", "\\btry\\b",
        "\\bcatch\\b", "\\bfinally\\b", "\\bsynchronized\\b", "\\bassert\\b", "\\bvolatile\\b", "\\bnative\\b",
        "\\bgetClass\\b", "\\bhashCode\\b", "\" *\\+", "\\+ *\"", "\\bstatic *\\{"};

    private final String source;

    /** The source without its comments and without what stands within quotes. */
    private final String code;

    private FormTest(String source) {
        this.source = source;
        code = source.replaceAll("(?s)/\\*.*?\\*/", "").replaceAll("//[^\n]*", "")
            .replaceAll("\"[^\"\n]*\"", "\"\"").replaceAll("'[^'\n]+'", "0");
    }

    public static void main(String[] args) throws IOException {
        FormTest form = new FormTest(Files.readString(FILE));
        form.signs();
        form.library();
        form.ruledOut();
        form.exceptions();
        form.staticFields();
        form.sizes();
        form.classes();
        CHECK.end();
    }

    private List<String> found(String pattern) {
        List<String> found = new ArrayList<>();
        Matcher matcher = Pattern.compile(pattern, Pattern.MULTILINE).matcher(code);
        while (matcher.find()) {
            found.add(matcher.group(matcher.groupCount()));
        }
        return found;
    }

    private void signs() {
        boolean isPlain = source.chars().allMatch(sign -> sign == '\n' || sign >= ' ' && sign <= '~');
        CHECK.due("the signs of the source are from 1 to 127, without tabs", true, isPlain);
    }

    private void library() {
        Set<String> known = new TreeSet<>(LIBRARY);
        known.addAll(EXCEPTIONS);
        for (String name : found("^import (.*);$")) {
            boolean isKnown = name.startsWith("java.util.") && known.contains(name.replace("java.util.", ""));
            CHECK.due(name + " may be imported", true, isKnown);
        }
        known.addAll(found("\\b(?:class|record|enum|interface) (\\w+)"));
        for (String name : new TreeSet<>(found("\\b([A-Z]\\w*[a-z]\\w*)\\b"))) {
            CHECK.due("the class " + name + " may be used", true, known.contains(name));
        }
        for (String function : found("\\b((?:Math|System|Arrays|List|Integer|Long)\\.\\w+)")) {
            CHECK.due(function + " may be used", true, function.matches(FUNCTIONS));
        }
    }

    private void ruledOut() {
        for (String pattern : RULED_OUT) {
            CHECK.due("without " + pattern, List.of(), found("(" + pattern + ")"));
        }
    }

    private void exceptions() {
        List<String> thrown = found("\\bthrow new (\\w+)\\((?:\"\")?\\);");
        CHECK.due("every throw makes its exception, with a written text", found("(\\bthrow\\b)").size(), thrown.size());
        thrown.forEach(name -> CHECK.due(name + " may be thrown", true, EXCEPTIONS.contains(name)));
    }

    private void staticFields() {
        for (Class<?> owner : allClasses()) {
            for (Field field : owner.getDeclaredFields()) {
                if (Modifier.isStatic(field.getModifiers())) {
                    boolean isConstant = Modifier.isFinal(field.getModifiers()) && CONSTANTS.contains(field.getType());
                    CHECK.due(field + " is a constant", true, isConstant);
                }
            }
        }
    }

    private void sizes() {
        CHECK.due("at most twelve classes", true, allClasses().size() <= 12);
        for (Class<?> owner : allClasses()) {
            int fields = 0;
            for (Field field : owner.getDeclaredFields()) {
                fields += Modifier.isStatic(field.getModifiers()) ? 0 : 1;
            }
            CHECK.due(owner.getName() + " has at most twenty fields", true, fields <= 20);
            for (Method method : owner.getDeclaredMethods()) {
                CHECK.due(method + " has at most seven parameters", true, method.getParameterCount() <= 7);
            }
        }
        List<String> bodies = found("(?s)^( {4}| {8})\\w[^;{}=]*\\)(?:\\s+throws [^{]*)? \\{$(.*?)^\\1\\}$");
        CHECK.due("methods and constructors were found", true, bodies.size() > 38);
        for (String body : bodies) {
            CHECK.due("a method has at most sixty lines:" + body, true, body.lines().count() <= 60);
        }
    }

    private void classes() {
        CHECK.due("one class stands at the left", List.of("MondayFactory"), found("^public final class (\\w+)"));
        CHECK.due("all classes", allClasses().size(), found("\\b(class|record|enum|interface)\\b").size());
        CHECK.due("those inside", allClasses().size() - 1, found("^    (private static final class) \\w+ \\{$").size());
    }

    private static List<Class<?>> allClasses() {
        List<Class<?>> all = new ArrayList<>(List.of(MondayFactory.class.getDeclaredClasses()));
        all.add(MondayFactory.class);
        return all;
    }
}
