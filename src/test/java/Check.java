import java.lang.reflect.InvocationTargetException;
import java.lang.reflect.Method;
import java.util.Arrays;
import java.util.Comparator;

/** Counts and prints the answers that are not due; a test ends with exit code 1 if there was one. */
final class Check {
    static final int[] NO_BELTS = {-1, 3, Integer.MIN_VALUE, Integer.MAX_VALUE};

    /** Numbers that are wrong wherever numbers count from 0. */
    static final int[] FAR = {-1, Integer.MIN_VALUE, Integer.MAX_VALUE};

    interface Call {
        Object answer();
    }

    private final String test;
    private String sentence = "";
    private int checks = 0;
    private int checksOfSentence = 0;
    private int wrong = 0;

    Check(String test) {
        this.test = test;
    }

    /**
     * Runs the tests of a class, which are its methods without parameters and results. Each is of one sentence; one
     * that is broken off by an exception lets the others run.
     */
    void eachSentence(Class<?> tests) {
        Method[] methods = tests.getDeclaredMethods();
        Arrays.sort(methods, Comparator.comparing(Method::getName));
        for (Method method : methods) {
            if (method.getParameterCount() == 0 && method.getReturnType() == void.class) {
                runSentence(method);
            }
        }
    }

    private void runSentence(Method method) {
        checksOfSentence = 0;
        sentence = "";
        method.setAccessible(true);
        try {
            method.invoke(null);
        } catch (InvocationTargetException e) {
            Throwable cause = e.getCause();
            due("broken off in the line " + lineOf(cause), "no exception", cause.getClass().getSimpleName());
        } catch (IllegalAccessException e) {
            due("run", "no exception", e.toString());
        }
        due(method.getName() + " tells its sentence, and checks it", true, !sentence.isEmpty() && checksOfSentence > 0);
    }

    private String lineOf(Throwable e) {
        for (StackTraceElement call : e.getStackTrace()) {
            if (call.getClassName().equals(test)) {
                return "" + call.getLineNumber();
            }
        }
        return "unknown";
    }

    /** Tells the words of the document whose test begins. */
    void sentence(String words) {
        due("one sentence a test", "", sentence);
        sentence = words + ": ";
        checksOfSentence = 0;
    }

    void due(String what, Object want, Object got) {
        checks++;
        checksOfSentence++;
        if (!want.equals(got)) {
            wrong++;
            System.out.println(test + ": " + sentence + what + ": due is " + want + ", answered was " + got);
        }
    }

    /** The very class must be thrown: one below it in the hierarchy may be the machine's own. */
    void dueThrow(String what, Class<? extends RuntimeException> want, Call call) {
        due(what, want.getSimpleName(), outcome(call));
    }

    void line(String what, String want, MondayFactory x, int length) {
        due(what + ", length", want.length(), length);
        StringBuilder got = new StringBuilder();
        for (int i = 0; i < length; i++) {
            got.append(x.character(i));
        }
        due(what, want, got.toString());
        dueThrow(what + ", behind its end", IndexOutOfBoundsException.class, () -> x.character(length));
    }

    /** Checks that a call is refused for a reason with a detail. */
    void refused(String what, int reason, int detail, MondayFactory x, Call call) {
        dueThrow(what, UnsupportedOperationException.class, call);
        due(what + ", reason", "" + reason, outcome(() -> x.refusal(false)));
        due(what + ", detail", "" + detail, outcome(() -> x.refusal(true)));
    }

    static String outcome(Call call) {
        try {
            return String.valueOf(call.answer());
        } catch (RuntimeException e) {
            return e.getClass().getSimpleName();
        }
    }

    static void type(MondayFactory x, String text) {
        for (char sign : text.toCharArray()) {
            x.append(sign);
        }
    }

    static int run(MondayFactory x, String text) {
        type(x, text);
        return x.run();
    }

    /** Makes a factory and carries out orders on it, each by the call of its own. */
    static MondayFactory factory(String orders) {
        MondayFactory x = new MondayFactory();
        call(x, orders);
        return x;
    }

    /** Carries out orders, with a blank between two, each by the call of its own: a text would cost more calls. */
    static int call(MondayFactory x, String orders) {
        int answer = 0;
        for (String order : orders.split(" ")) {
            answer = callOrder(x, order);
        }
        return answer;
    }

    private static int callOrder(MondayFactory x, String order) {
        String padded = order + "000";
        int a = padded.charAt(1) - '0';
        int b = padded.charAt(2) - '0';
        int c = padded.charAt(3) - '0';
        return switch (order.charAt(0)) {
            case 'm' -> x.make(a, b, c);
            case 'b' -> x.blank(a);
            case 't' -> x.tell(a, b, c);
            case 'i' -> x.inspect(a);
            case 'h' -> x.hire();
            case 'o' -> x.leave(a);
            case 's' -> x.sell(a);
            case 'r' -> x.repair(a);
            case 'w' -> x.week();
            default -> throw new AssertionError(order);
        };
    }

    /** Makes a factory whose only inspector has yawned so often; the last grey of the belt 0 stays none. */
    static MondayFactory yawner(int yawns) {
        MondayFactory x = factory("h");
        letYawn(x, yawns);
        return x;
    }

    /** Lets the only inspector yawn so often more, by Mondays of the belt 1 that pass. */
    static void letYawn(MondayFactory x, int times) {
        for (int i = 0; i < times; i++) {
            call(x, i % 2 == 0 ? "m167 i1" : "m157 i1");
        }
    }

    /** Puts so many more rejects of the test 1 on the shelf, by the belt 0 and an inspector who is there. */
    static void addRejects(MondayFactory x, int howMany) {
        for (int i = 0; i < howMany; i++) {
            call(x, i % 2 == 0 ? "m014 i0" : "m024 i0");
        }
    }

    static String freshOnes(MondayFactory x) {
        StringBuilder all = new StringBuilder();
        for (int place = 0; place < x.account(3); place++) {
            all.append(x.fresh(place));
        }
        return all.toString();
    }

    static String yawnsOf(MondayFactory x) {
        StringBuilder all = new StringBuilder();
        for (int inspector = 0; inspector < x.account(3); inspector++) {
            all.append(inspector == 0 ? "" : " ").append(x.yawns(inspector));
        }
        return all.toString();
    }

    /** All that changes can change, read through the face, so that two states can be compared. */
    static String state(MondayFactory x) {
        StringBuilder all = new StringBuilder();
        for (int what = 0; what <= 12; what++) {
            all.append(x.account(what)).append(' ');
        }
        for (int belt = 0; belt < 3; belt++) {
            all.append('|');
            for (int what = 0; what <= 6; what++) {
                all.append(x.beltOf(belt, what)).append(' ');
            }
            for (int place = 0; place < x.beltOf(belt, 0); place++) {
                for (int what = 0; what <= 3; what++) {
                    all.append(x.carrier(belt, place, what)).append(',');
                }
            }
        }
        for (int reject = 0; reject < x.account(2); reject++) {
            all.append('!');
            for (int what = 0; what <= 5; what++) {
                all.append(x.rejectOf(reject, what)).append(',');
            }
        }
        for (int inspector = 0; inspector < x.account(3); inspector++) {
            all.append('@').append(x.yawns(inspector));
        }
        return all.toString();
    }

    /** What changes cannot change, but for the signs of the input. */
    static String apart(MondayFactory x) {
        StringBuilder all = new StringBuilder();
        all.append(x.account(13)).append(' ').append(x.errorPosition()).append(' ');
        all.append(outcome(() -> x.refusal(false))).append(' ').append(outcome(() -> x.refusal(true))).append(' ');
        String sign = outcome(() -> x.character(0));
        for (int index = 1; sign.length() == 1; index++) {
            int at = index;
            all.append(sign);
            sign = outcome(() -> x.character(at));
        }
        return all.toString();
    }

    void end() {
        System.out.println(test + ": " + checks + " checks, " + wrong + " wrong");
        if (wrong != 0 || checks == 0) {
            System.exit(1);
        }
    }
}
