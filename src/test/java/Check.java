/** Counts and prints the answers that are not due; a test ends with exit code 1 if there was one. */
final class Check {
    interface Call {
        Object answer();
    }

    private final String test;
    private int checks = 0;
    private int wrong = 0;

    Check(String test) {
        this.test = test;
    }

    void due(String what, Object want, Object got) {
        checks++;
        if (!want.equals(got)) {
            wrong++;
            System.out.println(test + ": " + what + ": due is " + want + ", answered was " + got);
        }
    }

    /** The very class must be thrown: one below it in the hierarchy may be the machine's own. */
    void dueThrow(String what, Class<? extends RuntimeException> want, Call call) {
        due(what, want.getSimpleName(), outcome(call));
    }

    void line(String what, String want, MondayFactory x, int length) {
        due(what + ", length", want.length(), length);
        StringBuilder got = new StringBuilder();
        for (int i = 0; i < length; i++) {
            got.append(x.character(i));
        }
        due(what, want, got.toString());
        dueThrow(what + ", behind its end", IndexOutOfBoundsException.class, () -> x.character(length));
    }

    /** Checks that a call is refused for a reason with a detail. */
    void refused(String what, int reason, int detail, MondayFactory x, Call call) {
        dueThrow(what, UnsupportedOperationException.class, call);
        due(what + ", reason", reason, x.refusal(false));
        due(what + ", detail", detail, x.refusal(true));
    }

    static String outcome(Call call) {
        try {
            return String.valueOf(call.answer());
        } catch (RuntimeException e) {
            return e.getClass().getSimpleName();
        }
    }

    static void type(MondayFactory x, String text) {
        for (char sign : text.toCharArray()) {
            x.append(sign);
        }
    }

    static int run(MondayFactory x, String text) {
        type(x, text);
        return x.run();
    }

    /** All that changes can change, read through the face, so that two states can be compared. */
    static String state(MondayFactory x) {
        StringBuilder all = new StringBuilder();
        for (int what = 0; what <= 12; what++) {
            all.append(x.account(what)).append(' ');
        }
        for (int belt = 0; belt < 3; belt++) {
            all.append('|');
            for (int what = 0; what <= 6; what++) {
                all.append(x.beltOf(belt, what)).append(' ');
            }
            for (int place = 0; place < x.beltOf(belt, 0); place++) {
                for (int what = 0; what <= 3; what++) {
                    all.append(x.carrier(belt, place, what)).append(',');
                }
            }
        }
        for (int reject = 0; reject < x.account(2); reject++) {
            all.append('!');
            for (int what = 0; what <= 5; what++) {
                all.append(x.rejectOf(reject, what)).append(',');
            }
        }
        for (int inspector = 0; inspector < x.account(3); inspector++) {
            all.append('@').append(x.yawns(inspector));
        }
        return all.toString();
    }

    void end() {
        System.out.println(test + ": " + checks + " checks, " + wrong + " wrong");
        if (wrong != 0 || checks == 0) {
            System.exit(1);
        }
    }
}
