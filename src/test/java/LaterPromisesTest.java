import java.util.NoSuchElementException;

/** The sentences of the promises 24 to 39 that name boundary cases, each with a test of its own. */
public final class LaterPromisesTest {
    private static final Check CHECK = new Check("LaterPromisesTest");
    private static final Class<IndexOutOfBoundsException> NO_INDEX = IndexOutOfBoundsException.class;
    private static final Class<IllegalArgumentException> WRONG = IllegalArgumentException.class;
    private static final Class<NoSuchElementException> NONE = NoSuchElementException.class;
    private static final Class<IllegalStateException> BAD_STATE = IllegalStateException.class;

    public static void main(String[] args) {
        CHECK.eachSentence(LaterPromisesTest.class);
        CHECK.end();
    }

    private static void due(String what, Object want, Object got) {
        CHECK.due(what, want, got);
    }

    private static void fresh() {
        CHECK.sentence("24: Returns an inspector by yawns: the fewest first, of several the lowest");
        MondayFactory x = Check.factory("h h h h");
        due("all alike", "0123", Check.freshOnes(x));
        String[] want = {"1230", "2301", "3012", "0123", "1230"};
        for (String order : want) {
            Check.call(x, "m067 i0");
            due("one more has yawned", order, Check.freshOnes(x));
        }
        MondayFactory y = Check.factory("h m284 i2 m294 i2 h m184 i1 m164 i1 h m084 i0 h m274 i2");
        due("4, 3, 2 and 1 times", "3210", Check.freshOnes(y));
        y.leave(2);
        due("4, 3 and 1 times", "210", Check.freshOnes(y));
    }

    private static void freshOfNoPlace() {
        CHECK.sentence("24: Throws NoSuchElementException if there is no such place");
        MondayFactory x = new MondayFactory();
        for (int count = 0; count <= 4; count++) {
            int end = count;
            CHECK.dueThrow("behind " + count, NONE, () -> x.fresh(end));
            for (int place : Check.FAR) {
                CHECK.dueThrow("place " + place, NONE, () -> x.fresh(place));
            }
            if (count > 0) {
                due("the last of " + count, count - 1, x.fresh(count - 1));
            }
            if (count < 4) {
                x.hire();
            }
        }
    }

    private static void dueGreyest(String want, String orders) {
        MondayFactory x = Check.factory(orders);
        due(orders, want, "" + x.greyest(0) + x.greyest(1) + x.greyest(2));
    }

    private static void greyest() {
        CHECK.sentence("25: Returns a belt by the greys of its Mondays together: the most first, of several the one"
            + " with more carriers, then the lowest");
        dueGreyest("012", "h");
        dueGreyest("120", "b1 b2");
        dueGreyest("201", "b2 b2 b1 b0");
        dueGreyest("210", "m007 m117 m227");
        dueGreyest("012", "m027 m117 m107 b1 b1 b1 m207");
        dueGreyest("102", "m057 m127 m137 m247");
        dueGreyest("021", "m057 m257 b1 b1 b1 b1 b1");
        dueGreyest("201", "m057 m257 b2 b1 b1 b1 b1 b1");
        dueGreyest("210", "m297 m297 m297 m297 m297 m197 m197 m197 m197 m187 m097 m097 m097 m097 m077");
        dueGreyest("012", "m097 m197 m297");
    }

    private static void greyestOfNoPlace() {
        CHECK.sentence("25: Throws NoSuchElementException if there is no such place");
        MondayFactory x = new MondayFactory();
        due("the first and the last", "0 2", x.greyest(0) + " " + x.greyest(2));
        for (int place : Check.NO_BELTS) {
            CHECK.dueThrow("place " + place, NONE, () -> x.greyest(place));
        }
    }

    private static void line() {
        CHECK.sentence("26: Writes the line of a belt, in place of the line before. Returns its length");
        MondayFactory x = Check.factory("h m014 i0 m024 i0 b1 b1 b1 b1 b1");
        due("the longest", 18, x.line(1));
        CHECK.line("a shorter one in its place", "5/7:", x, x.line(0));
        CHECK.line("the longest again", "5/7:-- -- -- -- --", x, x.line(1));
        CHECK.dueThrow("no belt", NO_INDEX, () -> x.line(3));
        due("the line before stays then", "-", "" + x.character(17));
        x.shelfLine();
        CHECK.line("in place of the shelf's", "5/7:", x, x.line(2));
    }

    private static void shelfLine() {
        CHECK.sentence("27: Writes the line of the shelf, in place of the line before. Returns its length");
        MondayFactory x = Check.factory("h m014 i0 m024 i0 b1 b1 b1 b1 b1");
        x.line(1);
        CHECK.line("in place of a longer one", "14!1 24!1", x, x.shelfLine());
        x.sell(0);
        due("written before the sale", "2", "" + x.character(5));
        CHECK.line("one", "24!1", x, x.shelfLine());
        x.sell(0);
        CHECK.line("none", "", x, x.shelfLine());
        Check.addRejects(x, 8);
        due("eight", 39, x.shelfLine());
        due("its last character", "1", "" + x.character(38));
        CHECK.dueThrow("behind it", NO_INDEX, () -> x.character(39));
    }

    private static void character() {
        CHECK.sentence("28: Returns a character of the line, which is empty at first");
        MondayFactory x = Check.factory("m094");
        for (int index : new int[] {0, 1, -1, Integer.MIN_VALUE, Integer.MAX_VALUE}) {
            CHECK.dueThrow("at first, " + index, NO_INDEX, () -> x.character(index));
        }
        x.line(0);
        due("the first and the last", "54", "" + x.character(0) + x.character(5));
    }

    private static void noCharacter() {
        CHECK.sentence("28: Throws IndexOutOfBoundsException if there is no such index");
        MondayFactory x = Check.factory("m094");
        x.line(0);
        for (int index : new int[] {-1, 6, 7, Integer.MIN_VALUE, Integer.MAX_VALUE}) {
            CHECK.dueThrow("index " + index, NO_INDEX, () -> x.character(index));
        }
        due("the first and the last", "54", "" + x.character(0) + x.character(5));
        x.shelfLine();
        CHECK.dueThrow("of an empty line", NO_INDEX, () -> x.character(0));
    }

    private static final char[] SIGNS = {0, 1, 127, 128, 255, 256, 0xd800, 0xffff, ';', 'w'};

    private static void append() {
        CHECK.sentence("29: Returns the characters in the input then");
        MondayFactory x = new MondayFactory();
        for (int i = 0; i < 60; i++) {
            due("character " + (i + 1), i + 1, x.append(SIGNS[i % 10]));
        }
        Check.outcome(x::run);
        due("behind a run", 1, x.append('w'));
    }

    private static void appendToSixty() {
        CHECK.sentence("29: Throws IllegalStateException if the input contains 60 characters");
        MondayFactory x = new MondayFactory();
        Check.type(x, "w;".repeat(29) + "w");
        due("the character 60", 60, x.append(';'));
        for (char sign : SIGNS) {
            CHECK.dueThrow("the character 61, " + (int) sign, BAD_STATE, () -> x.append(sign));
        }
        due("still 60", 60, x.account(13));
    }

    private static void runNumbers() {
        CHECK.sentence("30: Returns the number of orders");
        due("one of one character", 1, Check.run(new MondayFactory(), "h"));
        due("one of four characters", 1, Check.run(new MondayFactory(), "m057"));
        due("two", 2, Check.run(new MondayFactory(), "m057;h"));
        due("of all kinds", 9, Check.run(new MondayFactory(), "h;m004;t156;i0;r0;b2;w;h;o1"));
        due("thirty, the most", 30, Check.run(new MondayFactory(), "w;".repeat(29) + "w"));
        due("twelve of four characters", 12, Check.run(new MondayFactory(), "t098;t099;".repeat(5) + "t098;t099"));
    }

    private static void runEmpties() {
        CHECK.sentence("30: the input, which is empty afterwards, also if an exception is thrown");
        MondayFactory x = new MondayFactory();
        String[] texts = {"h;w", "w;", "x", "w;b3", "i2", "t057;h"};
        for (String text : texts) {
            Check.outcome(() -> Check.run(x, text));
            due("behind " + text, 0, x.account(13));
            due("the next character behind " + text, 1, x.append('w'));
            due("alone behind " + text, 1, x.run());
        }
        Check.type(x, "w;".repeat(30));
        CHECK.dueThrow("a full one that ends too early", WRONG, x::run);
        due("behind a full one", 0, x.account(13));
        due("room again", 1, x.append('w'));
    }

    private static void runWrong() {
        CHECK.sentence("30: Throws IllegalArgumentException if the text has an error, or the method for an order would"
            + " throw another exception than UnsupportedOperationException; if the text has no error, its position is"
            + " -1");
        MondayFactory x = new MondayFactory();
        CHECK.dueThrow("empty", WRONG, x::run);
        due("an error", 0, x.errorPosition());
        String[] wrong = {"m357", "m053", "b3", "t357", "t253", "i3", "o0", "s0", "r0"};
        for (String order : wrong) {
            CHECK.dueThrow(order, WRONG, () -> Check.run(x, order));
            due("no error in " + order, -1, x.errorPosition());
            CHECK.dueThrow(order + "!", WRONG, () -> Check.run(x, order + "!"));
            due("an error behind " + order, order.length(), x.errorPosition());
        }
    }

    private static void runRefused() {
        CHECK.sentence("30: Throws UnsupportedOperationException if it is refused for a reason of the method for an"
            + " order; the reason is kept for refusal");
        MondayFactory x = new MondayFactory();
        CHECK.refused("reason 1, carriers", 1, 5, x, () -> Check.run(x, "b0;b0;b0;b0;b0;b0"));
        CHECK.refused("reason 1, inspectors", 1, 4, x, () -> Check.run(x, "h;h;h;h;h"));
        CHECK.refused("reason 2", 2, 9, x, () -> Check.run(x, "t097;t097"));
        CHECK.refused("reason 3", 3, 0, x, () -> Check.run(x, "h;i0"));
        CHECK.refused("reason 4", 4, 1, x, () -> Check.run(x, "w;m057;i0"));
        CHECK.refused("reason 5", 5, 1, x, () -> Check.run(x, "h;m004;m004;m004;i0;i0;i0;r0;r0;r0"));
        due("no error", -1, x.errorPosition());
        due("nothing of all that", "0 0 5 0 0", x.account(0) + " " + x.account(3) + " " + x.account(4) + " "
            + x.account(5) + " " + x.account(14));
    }

    private static void errorPosition() {
        CHECK.sentence("31: Returns the error position, or -1 if that text had no error or run has not been called");
        MondayFactory x = new MondayFactory();
        due("no run", -1, x.errorPosition());
        x.append('x');
        due("no run yet", -1, x.errorPosition());
        Check.outcome(x::run);
        due("the first character", 0, x.errorPosition());
        Check.run(x, "w");
        due("done", -1, x.errorPosition());
        Check.outcome(() -> Check.run(x, "w;".repeat(29) + "wx"));
        due("the last character", 59, x.errorPosition());
        Check.type(x, "w");
        due("of the latest call of run", 59, x.errorPosition());
        Check.outcome(() -> Check.run(x, ";i2"));
        due("refused", -1, x.errorPosition());
        Check.outcome(() -> Check.run(x, "w;".repeat(30)));
        due("behind the last character", 60, x.errorPosition());
        Check.outcome(() -> Check.run(x, "b9"));
        due("wrong", -1, x.errorPosition());
        Check.outcome(x::run);
        due("empty", 0, x.errorPosition());
    }

    private static void refusal() {
        CHECK.sentence("32: Returns the reason of the latest refusal");
        MondayFactory x = new MondayFactory();
        CHECK.refused("inspect", 3, 0, x, () -> x.inspect(0));
        CHECK.refused("tell", 2, 5, x, () -> x.tell(1, 5, 7));
        Check.call(x, "m057 b1 b1 b1 b1 b1");
        CHECK.refused("make", 1, 5, x, () -> x.make(1, 5, 7));
        CHECK.refused("nobody", 4, 0, x, () -> x.inspect(0));
        CHECK.refused("blank", 1, 5, x, () -> x.blank(1));
        CHECK.refused("inspect again", 3, 2, x, () -> x.inspect(2));
        Check.call(x, "h h h h");
        CHECK.refused("hire", 1, 4, x, x::hire);
        Check.call(x, "i0 m014 m014 m014 i0 i0 i0 r0 r0");
        CHECK.refused("repair", 5, 1, x, () -> x.repair(0));
        Check.call(x, "b0 b0 b0");
        CHECK.refused("repair again", 1, 5, x, () -> x.repair(0));
        CHECK.refused("run", 2, 0, x, () -> Check.run(x, "t004;t004"));
    }

    private static void nothingRefused() {
        CHECK.sentence("32: Throws NoSuchElementException if nothing was refused");
        MondayFactory y = Check.factory("h b0");
        Check.outcome(() -> y.make(3, 0, 0));
        Check.outcome(() -> y.make(0, 0, 0));
        Check.outcome(() -> y.leave(1));
        Check.outcome(() -> y.sell(0));
        Check.outcome(() -> y.repair(0));
        Check.outcome(y::restore);
        Check.outcome(y::best);
        Check.outcome(() -> Check.run(y, "b3"));
        Check.outcome(() -> Check.run(y, "x"));
        CHECK.dueThrow("the reason", NONE, () -> y.refusal(false));
        CHECK.dueThrow("the detail", NONE, () -> y.refusal(true));
        Check.outcome(() -> y.inspect(1));
        due("the first refusal", "3 1", y.refusal(false) + " " + y.refusal(true));
    }

    private static void refusalStays() {
        CHECK.sentence("32: Returns the reason of the latest refusal, which stays as it was told");
        MondayFactory x = Check.factory("b0 w w b0");
        CHECK.refused("in the week 2", 4, 2, x, () -> x.inspect(0));
        Check.call(x, "w h i1");
        due("in the week 3, with an inspector", "4 2", x.refusal(false) + " " + x.refusal(true));
        CHECK.refused("as told", 2, 5, x, () -> x.tell(0, 5, 7));
        x.tell(0, 9, 9);
        due("told anew", "2 5", x.refusal(false) + " " + x.refusal(true));
        Check.outcome(() -> x.make(-1, 0, 0));
        Check.outcome(() -> Check.run(x, "b3"));
        due("behind other exceptions", "2 5", x.refusal(false) + " " + x.refusal(true));
    }

    private static void accountRange() {
        CHECK.sentence("33: Throws IllegalArgumentException if what is not from 0 to 14");
        MondayFactory x = new MondayFactory();
        for (int what : new int[] {-1, 15, 16, Integer.MIN_VALUE, Integer.MAX_VALUE}) {
            CHECK.dueThrow("what " + what, WRONG, () -> x.account(what));
        }
    }

    private static void accountsAtFirst() {
        CHECK.sentence("33: Returns the account, at first 0, but for the coins");
        MondayFactory x = new MondayFactory();
        for (int what = 0; what <= 14; what++) {
            due("account " + what, what == 4 ? 5 : 0, x.account(what));
        }
    }

    private static void accountsOfCarriers() {
        CHECK.sentence("33: 0 for the carriers, 1 for the blanks");
        MondayFactory x = new MondayFactory();
        for (int i = 1; i <= 15; i++) {
            due("on its belt", (i - 1) / 3 + 1, i % 2 == 0 ? x.blank(i % 3) : x.make(i % 3, 5, 7));
            due("carriers and blanks", i + " " + i / 2, x.account(0) + " " + x.account(1));
        }
        Check.outcome(() -> x.blank(0));
        due("15 at most", "15 7", x.account(0) + " " + x.account(1));
        x.week();
        due("a week on", "14 6", x.account(0) + " " + x.account(1));
        x.week();
        due("two weeks on", "13 6", x.account(0) + " " + x.account(1));
    }

    private static void accountsOfRejects() {
        CHECK.sentence("33: 2 for the rejects, 3 for the inspectors");
        MondayFactory x = new MondayFactory();
        for (int i = 1; i <= 4; i++) {
            x.hire();
            due("inspectors", i, x.account(3));
        }
        for (int i = 1; i <= 9; i++) {
            Check.addRejects(x, 1);
            due("rejects", Math.min(8, i), x.account(2));
        }
        Check.call(x, "o0 s7 r0");
        due("one less, two less", "3 6", x.account(3) + " " + x.account(2));
    }

    private static void accountsOfCoins() {
        CHECK.sentence("33: 4 for the coins, 5 for the week");
        MondayFactory x = Check.factory("h m004 i0");
        due("at first", "5 0", accounts(x, 4, 5));
        Check.call(x, "r0 i0 r0");
        due("no coins", "0 0", accounts(x, 4, 5));
        Check.call(x, "i0 s0 w");
        due("coins, and a week", "8 1", accounts(x, 4, 5));
        Check.call(x, "w w");
        due("three weeks", "8 3", accounts(x, 4, 5));
    }

    private static String accounts(MondayFactory x, int... whats) {
        StringBuilder all = new StringBuilder();
        for (int what : whats) {
            all.append(all.isEmpty() ? "" : " ").append(x.account(what));
        }
        return all.toString();
    }

    private static void accountsOfMondays() {
        CHECK.sentence("33: 6 for the Mondays made so far, 7 for those stamped so far, 8 for those rejected so far,"
            + " also as scrap, 9 for the scrap so far");
        MondayFactory x = Check.factory("h b0 i0");
        due("a blank", "0 0 0 0", accounts(x, 6, 7, 8, 9));
        Check.call(x, "m057");
        due("made", "1 0 0 0", accounts(x, 6, 7, 8, 9));
        Check.call(x, "i0");
        due("stamped", "1 1 0 0", accounts(x, 6, 7, 8, 9));
        Check.call(x, "m014 i0");
        due("rejected", "2 1 1 0", accounts(x, 6, 7, 8, 9));
        Check.call(x, "r0 i0");
        due("repaired and rejected again", "2 1 2 0", accounts(x, 6, 7, 8, 9));
        Check.addRejects(x, 8);
        due("rejected as scrap", "10 1 10 1", accounts(x, 6, 7, 8, 9));
        Check.call(x, "m257 w");
        due("scrap by a week", "11 1 10 2", accounts(x, 6, 7, 8, 9));
        Check.call(x, "b2 w");
        due("a blank is no scrap", "11 1 10 2", accounts(x, 6, 7, 8, 9));
        Check.call(x, "s0");
        due("a Friday is none of them", "11 1 10 2", accounts(x, 6, 7, 8, 9));
    }

    private static void accountsOfFridays() {
        CHECK.sentence("33: 10 for the Fridays so far, 11 for those of this week, 12 for the repairs so far");
        MondayFactory x = Check.factory("h");
        Check.addRejects(x, 8);
        due("none", "0 0 0", accounts(x, 10, 11, 12));
        Check.call(x, "s0 s0 r0");
        due("two and one", "2 2 1", accounts(x, 10, 11, 12));
        Check.call(x, "w");
        due("in a new week", "2 0 1", accounts(x, 10, 11, 12));
        Check.call(x, "s0 r0 r0");
        due("of it", "3 1 3", accounts(x, 10, 11, 12));
        x.undo();
        x.undo();
        x.undo();
        due("undone", "2 0 1", accounts(x, 10, 11, 12));
    }

    private static void accountsOfCalls() {
        CHECK.sentence("33: 13 for the characters in the input, 14 for the changes that can be undone");
        MondayFactory x = new MondayFactory();
        for (int i = 1; i <= 10; i++) {
            x.week();
            x.append('w');
            due("both", i + " " + Math.min(8, i), accounts(x, 13, 14));
        }
        x.undo();
        due("one undone", "10 7", accounts(x, 13, 14));
        Check.outcome(x::run);
        due("run in vain", "0 7", accounts(x, 13, 14));
        Check.run(x, "w");
        due("run", "0 8", accounts(x, 13, 14));
        x.save();
        due("saved", "0 8", accounts(x, 13, 14));
        x.restore();
        due("restored", "0 0", accounts(x, 13, 14));
        Check.type(x, "w;".repeat(30));
        due("a full input", "60 0", accounts(x, 13, 14));
    }

    private static void isWell() {
        CHECK.sentence("34: Tells, by a second way, whether all is well");
        due("nothing there", true, new MondayFactory().isWell());
        due("blanks alone", true, Check.factory("b0 b1 b2").isWell());
        due("nobody there", true, Check.factory("m057 m048 m099").isWell());
        due("full belts", true,
            Check.factory("h m099 m048 m057 b0 m057 m199 m148 m157 b1 m157 m299 m248 m257 b2 m257").isWell());
        for (int yawns = 0; yawns <= 9; yawns++) {
            MondayFactory x = Check.yawner(yawns);
            Check.call(x, "m057 i0 m057 m058 m048 m099 b0");
            due("yawned " + yawns, true, x.isWell());
        }
        MondayFactory x = Check.factory("h");
        Check.addRejects(x, 10);
        due("a full shelf and scrap", true, x.isWell());
        Check.call(x, "s0 s0 s0 s0 s0 s0");
        due("Fridays", true, x.isWell());
        Check.call(x, "r0 w m257 w w w");
        due("weeks and repairs", true, x.isWell());
        x.undo();
        due("undone", true, x.isWell());
        x.save();
        Check.call(x, "m057 i0");
        x.restore();
        due("restored", true, x.isWell());
    }

    private static void meanGrey() {
        CHECK.sentence("35: Returns the sum divided by how many there are, both as doubles");
        due("the least", 0.0, Check.factory("m007 m107").meanGrey());
        due("the greatest", 9.0, Check.factory("m097 m197 m297").meanGrey());
        due("not rounded down", 0.5, Check.factory("m007 m217").meanGrey());
        due("thirds", 1.0 / 3.0, Check.factory("m007 m107 m217").meanGrey());
        due("no blanks", 7.0, Check.factory("m077 b0 b1 b2").meanGrey());
        due("fifteen", 67.0 / 15.0,
            Check.factory("m097 m087 m077 m067 m057 m147 m137 m127 m117 m107 m297 m287 m217 m217 m237").meanGrey());
    }

    private static void noMeanGrey() {
        CHECK.sentence("35: Throws ArithmeticException if there are none");
        MondayFactory x = new MondayFactory();
        CHECK.dueThrow("nothing there", ArithmeticException.class, x::meanGrey);
        Check.call(x, "h m014 i0 b0 b1 b2");
        CHECK.dueThrow("blanks and a reject", ArithmeticException.class, x::meanGrey);
        x.make(2, 0, 4);
        due("one is enough", 0.0, x.meanGrey());
    }

    private static void stampShare() {
        CHECK.sentence("36: Returns how many were divided by how many were inspected, both as floats");
        MondayFactory x = Check.factory("h m014 i0");
        due("none of one", 0.0f, x.stampShare());
        Check.call(x, "m157 i1");
        due("one of two", 0.5f, x.stampShare());
        Check.call(x, "m214 i2");
        due("one of three", 1.0f / 3.0f, x.stampShare());
        Check.call(x, "b2 i2");
        due("a blank does not count", 1.0f / 3.0f, x.stampShare());
        Check.addRejects(x, 7);
        due("scrap counts", 1.0f / 10.0f, x.stampShare());
        due("it was scrap", 1, x.account(9));
        due("all", 1.0f, Check.factory("h m057 i0 m067 i0").stampShare());
    }

    private static void noStampShare() {
        CHECK.sentence("36: Throws ArithmeticException if none was");
        MondayFactory y = new MondayFactory();
        CHECK.dueThrow("at first", ArithmeticException.class, y::stampShare);
        Check.call(y, "h b0 i0 m257 w m057");
        CHECK.dueThrow("a blank, scrap of a week, and one on a belt", ArithmeticException.class, y::stampShare);
        y.inspect(0);
        due("one is enough", 1.0f, y.stampShare());
        y.undo();
        CHECK.dueThrow("undone", ArithmeticException.class, y::stampShare);
    }

    private static void undo() {
        CHECK.sentence("37: Returns the number of changes that can still be undone");
        MondayFactory x = Check.factory("w w w w w w w w w");
        for (int left = 7; left >= 0; left--) {
            due("left", left, x.undo());
        }
        due("of one", 0, Check.factory("w").undo());
    }

    private static void noUndo() {
        CHECK.sentence("37: Throws IllegalStateException if no change can be undone");
        CHECK.dueThrow("at first", BAD_STATE, () -> new MondayFactory().undo());
        MondayFactory x = Check.factory("w w w w w w w w w");
        for (int i = 0; i < 8; i++) {
            x.undo();
        }
        CHECK.dueThrow("behind all", BAD_STATE, x::undo);
        due("the first of nine stays", 1, x.account(5));
    }

    private static void undoOfTheLatest() {
        CHECK.sentence("37: Undoes the latest change");
        MondayFactory x = Check.factory("h m014 i0");
        Check.run(x, "s0;w;w;h;b0");
        Check.outcome(() -> x.sell(0));
        x.undo();
        due("a text as a whole, not a call that threw", "0 1 1 5 0 0", accounts(x, 0, 2, 3, 4, 5, 10));
        x.undo();
        due("an inspection", "1 0 1 5 0 0", accounts(x, 0, 2, 3, 4, 5, 10));
        due("with its yawns, its last grey and its number", "0 -1 0", x.yawns(0) + " " + x.beltOf(0, 4) + " "
            + x.beltOf(0, 5));
    }

    private static void save() {
        CHECK.sentence("38: Takes a snapshot of what changes can change, in place of an earlier one. Returns the"
            + " carriers");
        MondayFactory x = new MondayFactory();
        due("none", 0, x.save());
        Check.call(x, "m057 m057 m057 m057 m057 m157 m157 m157 m157 m157 b2 b2 b2 b2 b2");
        due("fifteen", 15, x.save());
        due("of the later one", 15, x.restore());
        Check.call(x, "w w");
        due("thirteen", 13, x.save());
        x.week();
        due("in place of the earlier ones", 13, x.restore());
        due("its week", 2, x.account(5));
    }

    private static void restore() {
        CHECK.sentence("39: Makes everything that changes can change as it is in the snapshot, which stays. Returns the"
            + " carriers");
        MondayFactory x = new MondayFactory();
        x.save();
        Check.call(x, "h m014 i0 s0 w t004 b1");
        due("an empty one", 0, x.restore());
        due("all as at first", Check.state(new MondayFactory()), Check.state(x));
        Check.call(x, "h b0 w w");
        due("again", 0, x.restore());
        due("all as at first again", Check.state(new MondayFactory()), Check.state(x));
        due("right behind it", 0, x.restore());
        Check.call(x, "b0 b1 b2");
        x.undo();
        due("behind undo", 0, x.restore());
    }

    private static void noRestore() {
        CHECK.sentence("39: Throws IllegalStateException if there is no snapshot");
        MondayFactory y = Check.factory("w");
        CHECK.dueThrow("no save", BAD_STATE, y::restore);
        due("it changes nothing", "1 1", accounts(y, 5, 14));
        y.undo();
        CHECK.dueThrow("none by undo", BAD_STATE, y::restore);
        y.save();
        due("there is one", 0, y.restore());
    }

    private static void restoreOfAll() {
        CHECK.sentence("39: everything that changes can change");
        String orders = "h h t104 m014 i0 m099 i0 r0 m057 b0 b1 m188 m267 s0 w";
        String[] changes = {"h", "o0", "t104 t157", "m057", "b2", "i0", "i1", "i2", "r0", "s0", "w", "w w w w"};
        for (String change : changes) {
            MondayFactory x = Check.factory(orders + " m014 i0");
            String saved = Check.state(x);
            int carriers = x.save();
            Check.outcome(() -> Check.call(x, change));
            due("behind " + change, carriers, x.restore());
            due("as it was, behind " + change, saved, Check.state(x));
        }
    }

    private static void lastCalls() {
        CHECK.sentence("An object is used for at most 512 calls after it has been made");
        MondayFactory x = new MondayFactory();
        for (int i = 0; i < 502; i++) {
            x.week();
        }
        due("the call 503", 502, x.account(5));
        for (int left = 7; left >= 0; left--) {
            due("up to the call 511", left, x.undo());
        }
        due("the call 512", 494, x.account(5));
        MondayFactory y = Check.factory("h");
        for (int i = 0; i < 169; i++) {
            Check.call(y, "m014 i0 s0");
        }
        due("all Fridays of a week", 169, y.account(11));
        due("their coins", 5 + 11 * 12 / 2 + (169 - 11), y.account(4));
        due("all is well", true, y.isWell());
        due("no share", 0.0f, y.stampShare());
    }
}
