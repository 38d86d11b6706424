import java.io.IOException;
import java.nio.file.Files;
import java.nio.file.Path;
import java.util.ArrayList;
import java.util.List;
import java.util.regex.Matcher;
import java.util.regex.Pattern;

/** Prints a test made from the Java that a text shows: each call must give the answer that stands behind it. */
public final class ReadmeCalls {
    private static final String CALL = "factory.";
    private static final Pattern SHOWN =
        Pattern.compile("(factory\\.\\w+\\([^;]*\\));\\s+// (?:throws )?('?)([\\w.-]+)\\2(?:[,:;] .*)?");

    public static void main(String[] args) throws IOException {
        List<String> java = javaOf(Files.readAllLines(Path.of(args[0])));
        List<String> test = new ArrayList<>();
        test.add("public final class " + args[1] + " {");
        test.add("public static void main(String[] args) {");
        test.add("Check check = new Check(\"" + args[1] + "\");");
        java.forEach(line -> test.add(line.startsWith(CALL) ? checked(line) : line));
        test.add("check.end();");
        test.add("}");
        // Never called: it holds that the Java compiles as it is shown.
        test.add("static void asShown() {");
        test.addAll(java);
        test.add("}");
        test.add("}");
        test.forEach(System.out::println);
    }

    private static List<String> javaOf(List<String> text) {
        List<String> java = new ArrayList<>();
        boolean isJava = false;
        for (String line : text) {
            if (line.startsWith("```")) {
                isJava = line.equals("```java");
            } else if (isJava) {
                java.add(line);
            }
        }
        return java;
    }

    private static String checked(String line) {
        Matcher shown = SHOWN.matcher(line);
        if (!shown.matches()) {
            throw new IllegalArgumentException("there is no answer behind: " + line);
        }
        String call = shown.group(1);
        return "check.due(\"" + call + "\", \"" + shown.group(3) + "\", Check.outcome(() -> " + call + "));";
    }
}
