import java.util.NoSuchElementException;
import java.util.function.Function;
import java.util.function.Supplier;

/**
 * "A method that throws an exception leaves the state unchanged": each way in which each method can throw is tried on
 * one of two factories made alike, and both are compared by all that can be read, undone, restored and run.
 */
public final class RefusedCallsTest {
    private static final Check CHECK = new Check("RefusedCallsTest");
    private static final Class<IndexOutOfBoundsException> NO_INDEX = IndexOutOfBoundsException.class;
    private static final Class<IllegalArgumentException> WRONG = IllegalArgumentException.class;
    private static final Class<UnsupportedOperationException> REFUSED = UnsupportedOperationException.class;
    private static final Class<NoSuchElementException> NONE = NoSuchElementException.class;
    private static final Class<IllegalStateException> BAD_STATE = IllegalStateException.class;
    private static final Class<ArithmeticException> NO_SHARE = ArithmeticException.class;

    private static final String LEFT = "A method that throws an exception leaves the state unchanged";
    private static final String EMPTIED = "run: the input, which is empty afterwards, also if an exception is thrown";

    /** What Check.apart tells, in its order. */
    private static final int INPUT = 0;
    private static final int POSITION = 1;
    private static final int REASON = 2;
    private static final int DETAIL = 3;
    private static final int LINE = 4;

    public static void main(String[] args) {
        CHECK.eachSentence(RefusedCallsTest.class);
        CHECK.end();
    }

    private static void due(String what, Object want, Object got) {
        CHECK.due(what, want, got);
    }

    /** Makes a factory that has something of all there is, and room for more of it. */
    private static MondayFactory rich() {
        MondayFactory x = Check.factory("h h m057 i0 m058 i0 m014 i0 m188 b1 m267");
        x.save();
        Check.call(x, "m299 t064 w m057");
        Check.outcome(() -> Check.run(x, "w;w!"));
        Check.outcome(() -> x.tell(0, 6, 4));
        x.line(1);
        Check.type(x, "h;w");
        return x;
    }

    private static Supplier<MondayFactory> rich(String orders) {
        return () -> {
            MondayFactory x = rich();
            Check.call(x, orders);
            return x;
        };
    }

    /** Makes a factory on which all is empty but for the line, the input, the error position and the reason. */
    private static MondayFactory poor() {
        MondayFactory x = new MondayFactory();
        Check.outcome(() -> Check.run(x, "w;w!"));
        Check.outcome(() -> x.tell(0, 5, 7));
        x.line(1);
        Check.type(x, "h;w");
        return x;
    }

    private static void leaves(String what, Class<? extends RuntimeException> want,
            Function<MondayFactory, Object> act) {
        leaves(what, want, RefusedCallsTest::rich, act);
    }

    private static void leaves(String what, Class<? extends RuntimeException> want, Supplier<MondayFactory> recipe,
            Function<MondayFactory, Object> act) {
        int[] kept = {INPUT, POSITION, REASON, DETAIL, LINE};
        if (want == REFUSED) {
            kept = new int[] {INPUT, POSITION, LINE};
        }
        keeps(what, want, recipe, act, kept);
        MondayFactory x = recipe.get();
        MondayFactory y = recipe.get();
        Check.outcome(() -> act.apply(x));
        due(what + ", the input run", Check.outcome(y::run), Check.outcome(x::run));
        due(what + ", behind its run", Check.state(y), Check.state(x));
    }

    /** Compares all but what is not among the numbers of what is kept. */
    private static void keeps(String what, Class<? extends RuntimeException> want, Supplier<MondayFactory> recipe,
            Function<MondayFactory, Object> act, int... kept) {
        int changes = recipe.get().account(14);
        for (int undone = -1; undone <= changes; undone++) {
            MondayFactory x = recipe.get();
            MondayFactory y = recipe.get();
            String outcome = Check.outcome(() -> act.apply(x));
            if (want != null) {
                due(what, want.getSimpleName(), outcome);
            }
            for (int number : kept) {
                due(what + ", apart " + number, apart(y, number), apart(x, number));
            }
            due(what + ", changes", changes, x.account(14));
            back(x, undone);
            back(y, undone);
            due(what + ", back " + undone, Check.state(y), Check.state(x));
            due(what + ", changes left", y.account(14), x.account(14));
        }
    }

    private static String apart(MondayFactory x, int number) {
        return Check.apart(x).split(" ", 5)[number];
    }

    private static void back(MondayFactory x, int undone) {
        if (undone < 0) {
            Check.outcome(x::restore);
        }
        for (int i = 0; i < undone; i++) {
            x.undo();
        }
    }

    private static void wrongBelts() {
        CHECK.sentence(LEFT + ", by a wrong belt");
        for (int belt : Check.NO_BELTS) {
            leaves("make on " + belt, NO_INDEX, x -> x.make(belt, 5, 7));
            leaves("blank on " + belt, NO_INDEX, x -> x.blank(belt));
            leaves("tell of " + belt, NO_INDEX, x -> x.tell(belt, 4, 7));
            leaves("inspect of " + belt, NO_INDEX, x -> x.inspect(belt));
            leaves("beltOf " + belt, NO_INDEX, x -> x.beltOf(belt, 0));
            leaves("carrier of " + belt, NO_INDEX, x -> x.carrier(belt, 0, 0));
            leaves("passes of " + belt, NO_INDEX, x -> x.passes(belt, 0, 1));
            leaves("wouldFail of " + belt, NO_INDEX, x -> x.wouldFail(belt, 0, false));
            leaves("wouldFail again of " + belt, NO_INDEX, x -> x.wouldFail(belt, 0, true));
            leaves("wouldStamp of " + belt, NO_INDEX, x -> x.wouldStamp(belt));
            leaves("leastGrey of " + belt, NO_INDEX, x -> x.leastGrey(belt));
            leaves("line of " + belt, NO_INDEX, x -> x.line(belt));
            leaves("greyest " + belt, NONE, x -> x.greyest(belt));
        }
    }

    private static void wrongNumbers() {
        CHECK.sentence(LEFT + ", by a wrong number");
        for (int grey : new int[] {-1, 10}) {
            leaves("make of grey " + grey, WRONG, x -> x.make(0, grey, 7));
            leaves("tell of grey " + grey, WRONG, x -> x.tell(0, grey, 7));
        }
        for (int alarm : new int[] {3, 10}) {
            leaves("make of alarm " + alarm, WRONG, x -> x.make(0, 5, alarm));
            leaves("tell of alarm " + alarm, WRONG, x -> x.tell(0, 5, alarm));
        }
        for (int what : Check.FAR) {
            leaves("beltOf " + what, WRONG, x -> x.beltOf(0, what));
            leaves("carrier " + what, WRONG, x -> x.carrier(1, 0, what));
            leaves("rejectOf " + what, WRONG, x -> x.rejectOf(0, what));
            leaves("account " + what, WRONG, x -> x.account(what));
            leaves("passes " + what, WRONG, x -> x.passes(1, 0, what));
        }
        leaves("beltOf 7", WRONG, x -> x.beltOf(0, 7));
        leaves("carrier 4", WRONG, x -> x.carrier(1, 0, 4));
        leaves("rejectOf 6", WRONG, x -> x.rejectOf(0, 6));
        leaves("account 15", WRONG, x -> x.account(15));
        leaves("passes 0", WRONG, x -> x.passes(1, 0, 0));
        leaves("passes 4", WRONG, x -> x.passes(1, 0, 4));
    }

    private static void wrongPlaces() {
        CHECK.sentence(LEFT + ", by a wrong place, inspector, reject or index");
        for (int at : new int[] {-1, 8, Integer.MIN_VALUE, Integer.MAX_VALUE}) {
            leaves("leave " + at, NO_INDEX, x -> x.leave(at));
            leaves("sell " + at, NO_INDEX, x -> x.sell(at));
            leaves("repair " + at, NO_INDEX, x -> x.repair(at));
            leaves("carrier " + at, NO_INDEX, x -> x.carrier(1, at, 0));
            leaves("passes " + at, NO_INDEX, x -> x.passes(1, at, 1));
            leaves("wouldFail " + at, NO_INDEX, x -> x.wouldFail(1, at, false));
            leaves("wouldFail again " + at, NO_INDEX, x -> x.wouldFail(1, at, true));
            leaves("yawns " + at, NO_INDEX, x -> x.yawns(at));
            leaves("rejectOf " + at, NO_INDEX, x -> x.rejectOf(at, 0));
            leaves("wouldMend " + at, NO_INDEX, x -> x.wouldMend(at));
            leaves("fresh " + at, NONE, x -> x.fresh(at));
            leaves("character " + at, NO_INDEX, x -> x.character(at < 0 ? at : 40));
        }
        leaves("leave behind the last", NO_INDEX, x -> x.leave(2));
        leaves("sell behind the last", NO_INDEX, x -> x.sell(2));
        leaves("repair behind the last", NO_INDEX, x -> x.repair(2));
    }

    private static void refusedByRoom() {
        CHECK.sentence(LEFT + ", without room");
        leaves("make on a full belt", REFUSED, rich("b0 b0 b0 b0"), x -> x.make(0, 5, 7));
        leaves("blank on a full belt", REFUSED, rich("b0 b0 b0 b0"), x -> x.blank(0));
        leaves("repair to a full belt", REFUSED, rich("b0 b0 b0 b0"), x -> x.repair(0));
        leaves("hire of a fifth", REFUSED, rich("h h"), MondayFactory::hire);
        leaves("append to a full input", BAD_STATE, () -> {
            MondayFactory x = rich("b0").get();
            Check.type(x, ";w".repeat(28) + ";");
            return x;
        }, x -> x.append('w'));
    }

    private static void refusedOtherwise() {
        CHECK.sentence(LEFT + ", for other reasons");
        leaves("tell what is so", REFUSED, x -> x.tell(1, 5, 7));
        leaves("inspect an empty belt", REFUSED, rich("i0"), x -> x.inspect(0));
        leaves("repair without coins", REFUSED, rich("r0 r0 t095 i0 i0 i0"), x -> x.repair(1));
        leaves("restore without a snapshot", BAD_STATE, RefusedCallsTest::poor, MondayFactory::restore);
        leaves("undo without changes", BAD_STATE, RefusedCallsTest::poor, MondayFactory::undo);
        leaves("undo behind restore", BAD_STATE, () -> {
            MondayFactory x = rich();
            x.restore();
            return x;
        }, MondayFactory::undo);
    }

    private static void nobodyThere() {
        CHECK.sentence(LEFT + ", without inspectors");
        leaves("inspect", REFUSED, rich("o0 o0"), x -> x.inspect(1));
        leaves("wouldFail", NONE, rich("o0 o0"), x -> x.wouldFail(1, 0, false));
        leaves("wouldFail again", NONE, rich("o0 o0"), x -> x.wouldFail(1, 0, true));
        leaves("wouldStamp", NONE, rich("o0 o0"), x -> x.wouldStamp(1));
        leaves("next", NONE, rich("o0 o0"), MondayFactory::next);
        leaves("fresh", NONE, rich("o0 o0"), x -> x.fresh(0));
        leaves("leave", NO_INDEX, rich("o0 o0"), x -> x.leave(0));
        leaves("yawns", NO_INDEX, rich("o0 o0"), x -> x.yawns(0));
    }

    private static void nothingThere() {
        CHECK.sentence(LEFT + ", where nothing is");
        leaves("best", NONE, rich("s0 s0"), MondayFactory::best);
        leaves("sell", NO_INDEX, rich("s0 s0"), x -> x.sell(0));
        leaves("repair", NO_INDEX, rich("s0 s0"), x -> x.repair(0));
        leaves("meanGrey", NO_SHARE, rich("w w w w"), MondayFactory::meanGrey);
        leaves("meanGrey of nothing", NO_SHARE, RefusedCallsTest::poor, MondayFactory::meanGrey);
        leaves("stampShare", NO_SHARE, RefusedCallsTest::poor, MondayFactory::stampShare);
        leaves("best of nothing", NONE, RefusedCallsTest::poor, MondayFactory::best);
        leaves("refusal of nothing", NONE, () -> Check.factory("h"), x -> x.refusal(false));
        leaves("the detail of nothing", NONE, () -> Check.factory("h"), x -> x.refusal(true));
        leaves("character of an empty line", NO_INDEX, () -> Check.factory("h"), x -> x.character(0));
    }

    private static void keepsInRun(String text, Class<? extends RuntimeException> want, int position) {
        int[] kept = want == REFUSED ? new int[] {LINE} : new int[] {REASON, DETAIL, LINE};
        // The input that a rich factory has is "h;w".
        Function<MondayFactory, Object> act = x -> Check.run(x, text);
        keeps("h;w" + text, want, RefusedCallsTest::rich, act, kept);
        MondayFactory x = rich();
        Check.outcome(() -> act.apply(x));
        due("h;w" + text + ", the input is empty", "0", apart(x, INPUT));
        due("h;w" + text + ", error position", "" + position, apart(x, POSITION));
        due("h;w" + text + ", run again", "IllegalArgumentException", Check.outcome(x::run));
    }

    private static void textsWithErrors() {
        CHECK.sentence(EMPTIED + ", by an error");
        keepsInRun(";", WRONG, 4);
        keepsInRun("w", WRONG, 3);
        keepsInRun(";s0;x", WRONG, 7);
        keepsInRun(";m05", WRONG, 7);
        keepsInRun(";w".repeat(28) + ";", WRONG, 60);
    }

    private static void textsWithWrongNumbers() {
        CHECK.sentence(EMPTIED + ", by a wrong number");
        for (String order : new String[] {"m357", "m053", "b3", "t357", "t053", "i3", "o3", "s2", "r2"}) {
            keepsInRun(";" + order, WRONG, -1);
            keepsInRun(";m299;" + order + ";i9", WRONG, -1);
        }
    }

    private static void textsRefused() {
        CHECK.sentence(EMPTIED + ", by a refusal");
        for (String order : new String[] {"b0;b0;b0;b0;b0;m057", "b0;b0;b0;b0;b0;b0", "t157", "i0;i0", "o0;o0;o0;i1",
            "h;h", "r0;r0;m014;i0;r0;r0", "b0;b0;b0;b0;b0;r0"}) {
            keepsInRun(";" + order, REFUSED, -1);
            keepsInRun(";s0;" + order.replace("r0;r0;m014;i0;r0;r0", "t157") + ";b9", REFUSED, -1);
        }
    }

    private static void calm() {
        CHECK.sentence("A method that tells leaves the state unchanged, too");
        for (int belt = 0; belt <= 2; belt++) {
            int of = belt;
            leaves("wouldStamp " + belt, null, x -> x.wouldStamp(of));
            leaves("wouldFail " + belt, null, x -> x.wouldFail(of, 0, false));
            leaves("wouldFail again " + belt, null, x -> x.wouldFail(of, 0, true));
            leaves("leastGrey " + belt, null, x -> x.leastGrey(of));
            leaves("passes " + belt, null, x -> x.passes(of, 0, 3));
            leaves("greyest " + belt, null, x -> x.greyest(of));
        }
        leaves("wouldStamp by a full shelf", null, rich("m114 m114 m114 i1 i1 i1"), x -> x.wouldStamp(1));
        leaves("allPrices", null, x -> x.allPrices(false));
        leaves("allPrices again", null, x -> x.allPrices(true));
        leaves("bestOrder", null, MondayFactory::bestOrder);
        leaves("best", null, MondayFactory::best);
        leaves("wouldMend", null, x -> x.wouldMend(0));
        leaves("next", null, MondayFactory::next);
        leaves("fresh", null, x -> x.fresh(1));
        leaves("isWell", null, MondayFactory::isWell);
        leaves("meanGrey", null, MondayFactory::meanGrey);
        leaves("stampShare", null, MondayFactory::stampShare);
        leaves("errorPosition", null, MondayFactory::errorPosition);
    }
}
