import java.io.IOException;
import java.lang.reflect.Method;
import java.lang.reflect.Modifier;
import java.nio.file.Files;
import java.nio.file.Path;
import java.util.ArrayList;
import java.util.Collections;
import java.util.List;
import java.util.regex.Matcher;
import java.util.regex.Pattern;
import java.util.stream.Stream;

/** README.md names the calls, tests, classes and files of the project that there are, and no others. */
public final class ReadmeTest {
    private static final Check CHECK = new Check("ReadmeTest");
    private static final Pattern CODE = Pattern.compile("`([^`\n]+)`");
    private static final Path TESTS = Path.of("src", "test", "java");

    private final String text;
    private final List<String> code;

    private ReadmeTest(String text) {
        this.text = text;
        code = codeIn(text);
    }

    public static void main(String[] args) throws IOException {
        ReadmeTest readme = new ReadmeTest(Files.readString(Path.of("README.md")));
        readme.tableNamesAllCalls();
        readme.namesAllTests();
        readme.namesAllClassesInside();
        readme.namesNothingElse();
        CHECK.due("how to use the class", true, readme.text.contains("\n## How to use it\n"));
        CHECK.due("how to run its tests", true, readme.text.contains("\n## How to run its tests\n"));
        CHECK.due("the calls of an object", true, readme.text.replace('\n', ' ').contains(" for at most 512 calls"));
        CHECK.end();
    }

    private static List<String> codeIn(String text) {
        List<String> code = new ArrayList<>();
        Matcher matcher = CODE.matcher(text);
        while (matcher.find()) {
            code.add(matcher.group(1));
        }
        return code;
    }

    private void tableNamesAllCalls() {
        List<String> named = new ArrayList<>();
        text.lines().filter(line -> line.startsWith("|")).forEach(line -> named.addAll(codeIn(line)));
        List<String> calls = new ArrayList<>();
        for (Method method : MondayFactory.class.getDeclaredMethods()) {
            if (Modifier.isPublic(method.getModifiers())) {
                calls.add(method.getName());
            }
        }
        Collections.sort(named);
        Collections.sort(calls);
        CHECK.due("the calls of the table", calls, named);
    }

    private void namesAllTests() throws IOException {
        try (Stream<Path> files = Files.list(TESTS)) {
            files.map(file -> file.getFileName().toString().replace(".java", ""))
                .filter(name -> name.endsWith("Test"))
                .forEach(name -> CHECK.due("names " + name, true, code.contains(name)));
        }
    }

    private void namesAllClassesInside() {
        for (Class<?> inside : MondayFactory.class.getDeclaredClasses()) {
            String name = inside.getSimpleName();
            CHECK.due("names " + name, true, code.contains(name));
        }
    }

    private void namesNothingElse() {
        for (String name : code) {
            if (name.matches("[A-Z]\\w*")) {
                CHECK.due("there is a class " + name, true, isClass(name));
            }
            if (name.contains("/") && !name.startsWith("../")) {
                CHECK.due("there is a file " + name, true, Files.exists(Path.of(name)));
            }
        }
    }

    private static boolean isClass(String name) {
        boolean isTest = Files.exists(TESTS.resolve(name + ".java"));
        return isTest || isLoaded(name) || isLoaded("MondayFactory$" + name) || isLoaded("java.lang." + name);
    }

    private static boolean isLoaded(String name) {
        try {
            Class.forName(name, false, ReadmeTest.class.getClassLoader());
            return true;
        } catch (ClassNotFoundException e) {
            return false;
        }
    }
}
