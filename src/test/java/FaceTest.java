import java.lang.reflect.Constructor;
import java.lang.reflect.Field;
import java.lang.reflect.Method;
import java.lang.reflect.Modifier;
import java.util.Arrays;
import java.util.Set;
import java.util.TreeSet;
import java.util.stream.Collectors;

/** The face of the class: what the document lists, and nothing else that another class could see. */
public final class FaceTest {
    private static final String FACE = """
        int make(int,int,int) IndexOutOfBoundsException IllegalArgumentException UnsupportedOperationException
        int blank(int) IndexOutOfBoundsException UnsupportedOperationException
        int tell(int,int,int) IndexOutOfBoundsException IllegalArgumentException UnsupportedOperationException
        int inspect(int) IndexOutOfBoundsException UnsupportedOperationException
        int hire() UnsupportedOperationException
        int leave(int) IndexOutOfBoundsException
        int sell(int) IndexOutOfBoundsException
        int repair(int) IndexOutOfBoundsException UnsupportedOperationException
        int week()
        int beltOf(int,int) IndexOutOfBoundsException IllegalArgumentException
        int carrier(int,int,int) IndexOutOfBoundsException IllegalArgumentException
        int yawns(int) IndexOutOfBoundsException
        boolean passes(int,int,int) IndexOutOfBoundsException IllegalArgumentException
        int wouldFail(int,int,boolean) IndexOutOfBoundsException NoSuchElementException
        int wouldStamp(int) IndexOutOfBoundsException NoSuchElementException
        int next() NoSuchElementException
        int leastGrey(int) IndexOutOfBoundsException
        int rejectOf(int,int) IndexOutOfBoundsException IllegalArgumentException
        int best() NoSuchElementException
        int allPrices(boolean)
        int bestOrder()
        boolean wouldMend(int) IndexOutOfBoundsException
        int fresh(int) NoSuchElementException
        int greyest(int) NoSuchElementException
        int line(int) IndexOutOfBoundsException
        int shelfLine()
        char character(int) IndexOutOfBoundsException
        int append(char) IllegalStateException
        int run() IllegalArgumentException UnsupportedOperationException
        int errorPosition()
        int refusal(boolean) NoSuchElementException
        int account(int) IllegalArgumentException
        boolean isWell()
        double meanGrey() ArithmeticException
        float stampShare() ArithmeticException
        int undo() IllegalStateException
        int save()
        int restore() IllegalStateException
        """;

    public static void main(String[] args) {
        Check check = new Check("FaceTest");
        Class<?> face = MondayFactory.class;
        check.due("modifiers", Modifier.PUBLIC | Modifier.FINAL, face.getModifiers());
        check.due("methods", FACE.lines().collect(Collectors.toCollection(TreeSet::new)), visibleMethods(face));
        Constructor<?>[] constructors = face.getDeclaredConstructors();
        check.due("constructors", 1, constructors.length);
        check.due("constructor", "public MondayFactory()", constructors[0].toString());
        for (Field field : face.getDeclaredFields()) {
            check.due(field.getName() + " is private", true, Modifier.isPrivate(field.getModifiers()));
        }
        check.due("private methods with a public name", Set.of(), sharedNames(face));
        for (Class<?> inside : face.getDeclaredClasses()) {
            check.due(inside.getName() + " is static", true, Modifier.isStatic(inside.getModifiers()));
            check.due(inside.getName() + " is public", false, Modifier.isPublic(inside.getModifiers()));
        }
        check.end();
    }

    private static Set<String> visibleMethods(Class<?> face) {
        Set<String> methods = new TreeSet<>();
        for (Method method : face.getDeclaredMethods()) {
            if (!Modifier.isPrivate(method.getModifiers())) {
                methods.add(described(method));
            }
        }
        return methods;
    }

    private static String described(Method method) {
        String parameters = names(method.getParameterTypes(), ",");
        String thrown = names(method.getExceptionTypes(), " ");
        String call = method.getReturnType().getSimpleName() + " " + method.getName() + "(" + parameters + ")";
        return (call + " " + thrown).strip();
    }

    private static String names(Class<?>[] types, String gap) {
        return Arrays.stream(types).map(Class::getSimpleName).collect(Collectors.joining(gap));
    }

    private static Set<String> sharedNames(Class<?> face) {
        Set<String> publicNames = new TreeSet<>();
        for (Method method : face.getMethods()) {
            publicNames.add(method.getName());
        }
        Set<String> shared = new TreeSet<>();
        addShared(face, publicNames, shared);
        for (Class<?> inside : face.getDeclaredClasses()) {
            addShared(inside, publicNames, shared);
        }
        return shared;
    }

    private static void addShared(Class<?> owner, Set<String> publicNames, Set<String> shared) {
        for (Method method : owner.getDeclaredMethods()) {
            if (!Modifier.isPublic(method.getModifiers()) && publicNames.contains(method.getName())) {
                shared.add(owner.getSimpleName() + "." + method.getName());
            }
        }
    }
}
