import java.util.ArrayList;
import java.util.List;
import java.util.NoSuchElementException;
import java.util.function.Function;

/** The sentences under "Undo", "Exceptions" and "In doubt, too" that name boundary cases, each with its own test. */
public final class ChangeTermsTest {
    private static final Check CHECK = new Check("ChangeTermsTest");
    private static final Class<IndexOutOfBoundsException> NO_INDEX = IndexOutOfBoundsException.class;
    private static final Class<IllegalArgumentException> WRONG = IllegalArgumentException.class;

    public static void main(String[] args) {
        CHECK.eachSentence(ChangeTermsTest.class);
        CHECK.end();
    }

    private static void due(String what, Object want, Object got) {
        CHECK.due(what, want, got);
    }

    /** Makes a factory on which each change can be made, behind two changes. */
    private static MondayFactory ready() {
        MondayFactory x = new MondayFactory();
        Check.run(x, "h;m014;i0;m057");
        Check.run(x, "m188;b1;m267");
        return x;
    }

    private static void changes() {
        CHECK.sentence("The changes are the successful calls of make, blank, tell, inspect, hire, leave, sell, repair,"
            + " week and run");
        List<Function<MondayFactory, Object>> calls = List.of(x -> x.make(0, 5, 5), x -> x.blank(0),
            x -> x.tell(0, 4, 7), x -> x.inspect(0), x -> x.inspect(1), MondayFactory::hire, x -> x.leave(0),
            x -> x.sell(0), x -> x.repair(0), MondayFactory::week, x -> Check.run(x, "w"),
            x -> Check.run(x, "m057;h;i0;o1"));
        for (int i = 0; i < calls.size(); i++) {
            MondayFactory x = ready();
            String before = Check.state(x);
            calls.get(i).apply(x);
            due("the call " + i, 3, x.account(14));
            due("the call " + i + " can be undone", 2, x.undo());
            due("the call " + i + " is undone", before, Check.state(x));
        }
        MondayFactory x = new MondayFactory();
        Check.run(x, "h;o0");
        due("a text that leaves all as it was", 1, x.account(14));
        due("a week without anything", 0, x.week());
        due("counts, too", 2, x.account(14));
    }

    private static void noChanges() {
        CHECK.sentence("No other calls are changes, nor those that throw");
        List<Check.Call> calls = new ArrayList<>();
        MondayFactory x = ready();
        calls.add(() -> x.make(3, 5, 5));
        calls.add(() -> x.make(0, 10, 5));
        calls.add(() -> x.blank(-1));
        calls.add(() -> x.tell(0, 5, 7));
        calls.add(() -> x.leave(1));
        calls.add(() -> x.sell(1));
        calls.add(() -> x.repair(1));
        calls.add(x::run);
        calls.add(() -> Check.run(x, "w;t057"));
        calls.add(() -> Check.run(x, "w;"));
        calls.add(() -> x.append('w'));
        calls.add(() -> x.line(0));
        calls.add(x::shelfLine);
        calls.add(x::save);
        calls.add(x::isWell);
        calls.add(x::best);
        calls.add(() -> x.allPrices(false));
        calls.add(x::bestOrder);
        calls.add(() -> x.wouldMend(0));
        calls.add(() -> x.wouldFail(1, 0, false));
        calls.add(() -> x.wouldFail(1, 0, true));
        calls.add(() -> x.wouldStamp(1));
        calls.add(() -> x.passes(1, 0, 1));
        calls.add(() -> x.refusal(true));
        calls.add(x::meanGrey);
        calls.add(x::stampShare);
        for (int i = 0; i < calls.size(); i++) {
            Check.outcome(calls.get(i));
            due("behind the call " + i, 2, x.account(14));
        }
        due("the latest change is undone", 1, x.undo());
        due("that of the belt 1", 0, x.beltOf(1, 0));
    }

    private static void latestEight() {
        CHECK.sentence("The latest 8 can be undone");
        for (int changes = 0; changes <= 26; changes++) {
            MondayFactory x = new MondayFactory();
            for (int i = 0; i < changes; i++) {
                x.week();
            }
            int most = Math.min(8, changes);
            due("of " + changes, most, x.account(14));
            for (int undone = 1; undone <= most; undone++) {
                due("left of " + changes, most - undone, x.undo());
                due("the account of " + changes, most - undone, x.account(14));
                due("the week of " + changes, changes - undone, x.account(5));
            }
            CHECK.dueThrow("no more of " + changes, IllegalStateException.class, x::undo);
            due("the week is still that of " + changes, changes - most, x.account(5));
        }
    }

    private static void eachOfTheEight() {
        CHECK.sentence("The latest 8 can be undone, each to the very state ahead of it");
        String[] orders = {"h", "m014", "m158", "i0", "b1", "r0", "t204", "i1", "s0", "w", "i1", "h", "o0", "m299"};
        for (int end = 0; end <= orders.length; end++) {
            MondayFactory x = new MondayFactory();
            for (int i = 0; i < end; i++) {
                Check.call(x, orders[i]);
            }
            for (int at = end - 1; at >= 0 && at >= end - 8; at--) {
                x.undo();
                MondayFactory y = new MondayFactory();
                for (int i = 0; i < at; i++) {
                    Check.call(y, orders[i]);
                }
                // Eight whole states would take more calls than an object has.
                due("of " + end + " back to " + at, seen(y, at), seen(x, at));
            }
        }
    }

    private static String seen(MondayFactory x, int at) {
        return at % 3 == 0 ? Check.state(x) : "" + x.account(0) + x.account(2) + x.account(3) + x.account(4)
            + x.account(5) + x.account(6) + x.account(7) + x.beltOf(2, 2) + x.beltOf(1, 0) + x.beltOf(0, 0);
    }

    private static void undoneInTurns() {
        CHECK.sentence("The latest 8 can be undone, also where changes and undo come in turns");
        for (int first = 0; first <= 12; first++) {
            for (int undone = 0; undone <= Math.min(8, first); undone++) {
                for (int then = 0; then <= 10; then++) {
                    MondayFactory x = new MondayFactory();
                    call(first, x::week);
                    call(undone, x::undo);
                    call(then, x::week);
                    int week = first - undone + then;
                    int left = Math.min(8, Math.min(8, first) - undone + then);
                    String what = first + " less " + undone + " and " + then;
                    due(what, left + " " + week, x.account(14) + " " + x.account(5));
                    call(left, x::undo);
                    due(what + ", undone", week - left, x.account(5));
                    CHECK.dueThrow(what + ", no more", IllegalStateException.class, x::undo);
                }
            }
        }
    }

    private static void call(int times, Check.Call call) {
        for (int i = 0; i < times; i++) {
            call.answer();
        }
    }

    private static void restoreForgets() {
        CHECK.sentence("restore forgets all");
        for (int changes = 0; changes <= 10; changes++) {
            MondayFactory x = new MondayFactory();
            x.save();
            call(changes, x::week);
            x.restore();
            due("behind " + changes, 0, x.account(14));
            CHECK.dueThrow("behind " + changes, IllegalStateException.class, x::undo);
            due("the week", 0, x.account(5));
            x.week();
            due("a new one behind " + changes, 0, x.undo());
            CHECK.dueThrow("none ahead of restore", IllegalStateException.class, x::undo);
        }
        MondayFactory x = new MondayFactory();
        call(3, x::week);
        x.save();
        due("save forgets none", 3, x.account(14));
        call(2, x::undo);
        x.restore();
        due("also those ahead of save", "0 3", x.account(14) + " " + x.account(5));
        MondayFactory y = Check.factory("w w");
        CHECK.dueThrow("no snapshot", IllegalStateException.class, y::restore);
        due("a restore that throws forgets none", 2, y.account(14));
    }

    private static void firstException() {
        CHECK.sentence("If several exceptions apply, the one that is documented first is thrown");
        MondayFactory x = Check.factory("b0 b0 b0 b0 b0");
        for (int belt : Check.NO_BELTS) {
            CHECK.dueThrow("make, no belt", NO_INDEX, () -> x.make(belt, 10, 3));
            CHECK.dueThrow("tell, no belt", NO_INDEX, () -> x.tell(belt, 10, 3));
            CHECK.dueThrow("inspect, no belt", NO_INDEX, () -> x.inspect(belt));
            CHECK.dueThrow("beltOf, no belt", NO_INDEX, () -> x.beltOf(belt, 7));
            CHECK.dueThrow("carrier, no belt", NO_INDEX, () -> x.carrier(belt, 0, 4));
            CHECK.dueThrow("passes, no belt", NO_INDEX, () -> x.passes(belt, 0, 4));
            CHECK.dueThrow("wouldFail, no belt", NO_INDEX, () -> x.wouldFail(belt, 0, true));
            CHECK.dueThrow("wouldStamp, no belt", NO_INDEX, () -> x.wouldStamp(belt));
        }
        CHECK.dueThrow("make, range and no room", WRONG, () -> x.make(0, 10, 7));
        CHECK.dueThrow("make, range and no room", WRONG, () -> x.make(0, 5, 10));
        CHECK.dueThrow("carrier, no place and no number", NO_INDEX, () -> x.carrier(0, 5, 4));
        CHECK.dueThrow("carrier, no place and no number", NO_INDEX, () -> x.carrier(0, -1, -1));
        CHECK.dueThrow("passes, no place and no test", NO_INDEX, () -> x.passes(0, 5, 0));
        CHECK.dueThrow("passes, no place and no test", NO_INDEX, () -> x.passes(0, -1, 4));
        CHECK.dueThrow("wouldFail, no place and nobody", NO_INDEX, () -> x.wouldFail(0, 5, false));
        CHECK.dueThrow("wouldFail, no place and nobody", NO_INDEX, () -> x.wouldFail(0, -1, true));
        CHECK.dueThrow("rejectOf, no reject and no number", NO_INDEX, () -> x.rejectOf(0, 6));
        CHECK.dueThrow("rejectOf, no reject and no number", NO_INDEX, () -> x.rejectOf(-1, -1));
        CHECK.dueThrow("repair, no reject and no room", NO_INDEX, () -> x.repair(0));
        CHECK.dueThrow("no reason is kept by all that", NoSuchElementException.class, () -> x.refusal(false));
    }

    private static void firstOfTwoNumbers() {
        CHECK.sentence("A number out of range is told ahead of what is so already");
        MondayFactory x = new MondayFactory();
        CHECK.dueThrow("the grey is so, the alarm is wrong", WRONG, () -> x.tell(0, 5, 3));
        CHECK.dueThrow("the grey is so, the alarm is wrong", WRONG, () -> x.tell(0, 5, 10));
        CHECK.dueThrow("the alarm is so, the grey is wrong", WRONG, () -> x.tell(0, -1, 7));
        CHECK.dueThrow("the alarm is so, the grey is wrong", WRONG, () -> x.tell(0, 10, 7));
        CHECK.dueThrow("no reason is kept by all that", NoSuchElementException.class, () -> x.refusal(false));
    }

    /** Makes a factory with three characters of input, a line, an error position and a reason. */
    private static MondayFactory withAllApart() {
        MondayFactory x = Check.factory("m057 w m157");
        Check.outcome(() -> Check.run(x, "w;w;!"));
        Check.outcome(() -> x.inspect(2));
        x.line(1);
        Check.type(x, "h;w");
        return x;
    }

    private static void staysByUndo() {
        CHECK.sentence("The input, the line, the error position and the reason are not undone, and stay");
        MondayFactory x = withAllApart();
        String apart = "3 4 3 2 5/7:57 57";
        due("all of it", apart, Check.apart(x));
        for (int i = 0; i < 3; i++) {
            x.undo();
            due("undone " + i, apart, Check.apart(x));
        }
        due("the input can be run", 2, x.run());
        x.undo();
        due("a text comes not back by undo", "0 -1 3 2 5/7:57 57", Check.apart(x));
        CHECK.dueThrow("there is no text", WRONG, x::run);
        due("an error position", 0, x.errorPosition());
    }

    private static void staysByRestore() {
        CHECK.sentence("The input, the line, the error position and the reason are not saved, and stay");
        MondayFactory x = withAllApart();
        x.save();
        x.append(';');
        x.restore();
        due("the input at restore", "4 4 3 2 5/7:57 57", Check.apart(x));
        x.append('w');
        due("run", 3, x.run());
        x.shelfLine();
        CHECK.refused("another reason", 2, 5, x, () -> x.tell(0, 5, 7));
        x.restore();
        due("all is that of restore", "0 -1 2 5 IndexOutOfBoundsException", "" + Check.apart(x)
            + Check.outcome(() -> x.character(0)));
        MondayFactory y = new MondayFactory();
        y.save();
        Check.outcome(() -> Check.run(y, "wx"));
        Check.outcome(() -> y.inspect(1));
        y.line(2);
        y.append('h');
        y.restore();
        due("what was not there at save", "1 1 3 1 5/7:", Check.apart(y));
    }

    private static void yawnsAhead() {
        CHECK.sentence("An inspector leaves tests out by the yawns ahead of the inspection");
        // Each row: the yawns, the grey of a Monday as grey as the last one, its alarm, and the test that it fails.
        int[][] rows = {{5, 7, 7, 3}, {5, 9, 7, 3}, {4, 8, 7, 3}, {6, 7, 7, 0}, {8, 7, 8, 2}, {8, 9, 8, 2},
            {7, 8, 8, 2}, {9, 7, 8, 0}, {9, 9, 8, 0}};
        for (int[] row : rows) {
            MondayFactory x = Check.factory("h");
            x.make(0, row[1], 7);
            Check.call(x, "i0 o0 h");
            Check.letYawn(x, row[0]);
            x.make(0, row[1], row[2]);
            due("yawned " + row[0] + ", grey " + row[1] + ", alarm " + row[2], row[3], x.inspect(0));
        }
    }

    private static void blanksAreNotInspected() {
        CHECK.sentence("A blank does not count as inspected");
        MondayFactory x = Check.factory("h b0 i0");
        due("a blank alone", 0, x.beltOf(0, 5));
        due("nor as stamped", 0, x.beltOf(0, 6) + x.account(7));
        CHECK.dueThrow("no share by it", ArithmeticException.class, x::stampShare);
        Check.call(x, "m057 b0 i0 i0");
        due("a Monday and a blank", 1, x.beltOf(0, 5));
        due("the share", 1.0f, x.stampShare());
        due("no blank would be stamped", 0, Check.factory("h b0 b0").wouldStamp(0));
    }

    private static void failedByItsAlarm() {
        CHECK.sentence("A reject failed by its alarm if it failed the test 2");
        due("the test 2", 11, Check.factory("h m058 i0").rejectOf(0, 4));
        due("the test 1, though late", 8, Check.factory("h m048 i0").rejectOf(0, 4));
        due("the test 3", 7, Check.factory("h m057 i0 m057 i0").rejectOf(0, 4));
    }

    private static void lastGreysStay() {
        CHECK.sentence("Last greys stay as weeks go by");
        MondayFactory x = Check.factory("h m057 i0 m167 i1 m287 i2 m057");
        for (int week = 0; week < 3; week++) {
            x.week();
            due("week " + week, "5 6 8", x.beltOf(0, 4) + " " + x.beltOf(1, 4) + " " + x.beltOf(2, 4));
        }
        MondayFactory y = Check.factory("h m057 w w m057 i0 w m057");
        due("and are what they are for", 3, y.inspect(0));
        MondayFactory z = Check.factory("m057 w w w");
        due("none stays none", "-1 -1 -1", z.beltOf(0, 4) + " " + z.beltOf(1, 4) + " " + z.beltOf(2, 4));
    }

    private static void toldByNow() {
        CHECK.sentence("Which test a carrier would fail is told by the inspector who would inspect now, and by the last"
            + " grey now");
        MondayFactory x = Check.factory("h m057 i0 m087 m057 m087");
        for (boolean isAgain : new boolean[] {false, true}) {
            due("the last grey now, not behind those ahead", 3, x.wouldFail(0, 1, isAgain));
            due("none by one ahead", 0, x.wouldFail(0, 2, isAgain));
        }
        MondayFactory y = Check.yawner(5);
        Check.call(y, "m197 m167");
        for (boolean isAgain : new boolean[] {false, true}) {
            due("the yawns and the last grey now, 5 and 6", 3, y.wouldFail(1, 1, isAgain));
        }
        Check.call(y, "i1 m197");
        for (boolean isAgain : new boolean[] {false, true}) {
            due("the yawns now, 7", 0, y.wouldFail(1, 1, isAgain));
        }
        y.hire();
        for (boolean isAgain : new boolean[] {false, true}) {
            due("those of the inspector who would inspect now", 3, y.wouldFail(1, 1, isAgain));
        }
    }

    private static void nothingWithoutInspectors() {
        CHECK.sentence("Without inspectors nothing is told of that, nor of stamps, also for blanks and empty belts");
        Class<NoSuchElementException> nobody = NoSuchElementException.class;
        MondayFactory x = Check.factory("m057 b1");
        for (int round = 0; round < 2; round++) {
            for (boolean isAgain : new boolean[] {false, true}) {
                CHECK.dueThrow("a Monday", nobody, () -> x.wouldFail(0, 0, isAgain));
                CHECK.dueThrow("a blank", nobody, () -> x.wouldFail(1, 0, isAgain));
            }
            CHECK.dueThrow("a Monday's belt", nobody, () -> x.wouldStamp(0));
            CHECK.dueThrow("a blank's belt", nobody, () -> x.wouldStamp(1));
            CHECK.dueThrow("an empty belt", nobody, () -> x.wouldStamp(2));
            CHECK.dueThrow("the next one", nobody, x::next);
            x.hire();
            due("told by one", "0 0 0 1 0 0", x.wouldFail(0, 0, false) + " " + x.wouldFail(1, 0, true) + " " + x.next()
                + " " + x.wouldStamp(0) + " " + x.wouldStamp(1) + " " + x.wouldStamp(2));
            x.leave(0);
        }
    }

    private static void repairsWithoutCoinsAndRoom() {
        CHECK.sentence("Whether a repair would do is told by all three tests, be there coins and room or not");
        MondayFactory x = Check.factory("h m257 i2 m257 i2 m268 i2");
        due("it would", "true true", x.wouldMend(0) + " " + x.wouldMend(1));
        Check.call(x, "b0 b0 b0 b0 b0");
        due("without room", "true true", x.wouldMend(0) + " " + x.wouldMend(1));
        Check.call(x, "w w w w w m014 i0 m014 i0 r2 r2 w w");
        due("coins", 1, x.account(4));
        due("without coins", "true true", x.wouldMend(0) + " " + x.wouldMend(1));
        x.tell(0, 8, 7);
        due("the test 1", "false true", x.wouldMend(0) + " " + x.wouldMend(1));
        x.tell(0, 5, 6);
        due("the test 2", "true false", x.wouldMend(0) + " " + x.wouldMend(1));
        x.tell(0, 5, 7);
        Check.call(x, "m077 i0");
        due("the test 3", "false true", x.wouldMend(0) + " " + x.wouldMend(1));
        x.leave(0);
        due("without inspectors", "false true", x.wouldMend(0) + " " + x.wouldMend(1));
        MondayFactory y = Check.yawner(9);
        Check.call(y, "t267 m257 i2 m259 i2");
        due("no test 2 is left out", "true false", y.wouldMend(0) + " " + y.wouldMend(1));
        Check.call(y, "m077 i0");
        due("no test 3 is left out", false, y.wouldMend(0));
    }
}
