import java.util.NoSuchElementException;

/** Promises 24 to 32: orders of inspectors and belts, lines, texts and reasons. */
public final class TextsTest {
    private static final Check CHECK = new Check("TextsTest");

    public static void main(String[] args) {
        promise24();
        promise25();
        promise26();
        promise27();
        promise28();
        promise29();
        promise30();
        eachOrder();
        allOrNothing();
        longTexts();
        promise31();
        promise32();
        CHECK.end();
    }

    private static void due(String what, Object want, Object got) {
        CHECK.due(what, want, got);
    }

    private static void promise24() {
        MondayFactory x = new MondayFactory();
        CHECK.dueThrow("24: none", NoSuchElementException.class, () -> x.fresh(0));
        Check.run(x, "h;h;h;h");
        for (int place : Check.FAR) {
            CHECK.dueThrow("24: no place", NoSuchElementException.class, () -> x.fresh(place));
        }
        CHECK.dueThrow("24: no place", NoSuchElementException.class, () -> x.fresh(4));
        due("24: all alike", "0123", Check.freshOnes(x));
        Check.run(x, "m097;i0;m077;i0;m087;i0");
        due("24: yawned 2, 1, 2 and 0 times", "3102", Check.freshOnes(x));
        x.leave(3);
        CHECK.dueThrow("24: no place any more", NoSuchElementException.class, () -> x.fresh(3));
        due("24: three", "102", Check.freshOnes(x));
    }

    private static String greyestOnes(MondayFactory x) {
        return "" + x.greyest(0) + x.greyest(1) + x.greyest(2);
    }

    private static void promise25() {
        MondayFactory x = new MondayFactory();
        for (int place : Check.FAR) {
            CHECK.dueThrow("25: no place", NoSuchElementException.class, () -> x.greyest(place));
        }
        CHECK.dueThrow("25: no place", NoSuchElementException.class, () -> x.greyest(3));
        due("25: all empty", "012", greyestOnes(x));
        x.blank(2);
        due("25: more carriers", "201", greyestOnes(x));
        x.make(1, 0, 5);
        due("25: as many carriers", "120", greyestOnes(x));
        x.make(0, 3, 5);
        due("25: more grey", "012", greyestOnes(x));
        Check.run(x, "m225;m215");
        due("25: as grey, with more carriers", "201", greyestOnes(x));
        Check.run(x, "m195");
        due("25: the greys together", "120", greyestOnes(x));
        Check.run(x, "m045;m115;m095");
        due("25: all greys of a belt", "012", greyestOnes(x));
        MondayFactory y = new MondayFactory();
        Check.run(y, "m054;m164;m264;m204");
        due("25: 1 more alone, ahead of carriers", "210", greyestOnes(y));
        Check.run(y, "b0;b0;b0;b0");
        due("25: 1 less, with most carriers", "210", greyestOnes(y));
    }

    private static void promise26() {
        MondayFactory x = new MondayFactory();
        for (int belt : Check.NO_BELTS) {
            CHECK.dueThrow("26: no belt", IndexOutOfBoundsException.class, () -> x.line(belt));
        }
        CHECK.line("26: empty", "5/7:", x, x.line(0));
        Check.run(x, "m057;b0;m094");
        CHECK.line("26: as in the document", "5/7:57 -- 94", x, x.line(0));
        Check.run(x, "t209;b2;b2;b2;b2;b2");
        CHECK.line("26: five blanks", "0/9:-- -- -- -- --", x, x.line(2));
        CHECK.line("26: shorter than the line before", "5/7:", x, x.line(1));
        CHECK.dueThrow("26: no belt", IndexOutOfBoundsException.class, () -> x.line(3));
        due("26: the line before stays", '5', x.character(0));
        due("26: no change", 2, x.account(14));
    }

    private static void promise27() {
        MondayFactory x = new MondayFactory();
        x.line(0);
        CHECK.line("27: empty, in place of a belt's", "", x, x.shelfLine());
        Check.run(x, "h;m057;i0;m057;i0");
        CHECK.line("27: one", "57!3", x, x.shelfLine());
        Check.run(x, "m049;i0;m069;i0;m004;i0;m014;i0;m024;i0;m034;i0;m044;i0");
        CHECK.line("27: eight", "57!3 49!1 69!2 04!1 14!1 24!1 34!1 44!1", x, x.shelfLine());
        x.sell(2);
        CHECK.line("27: one sold", "57!3 49!1 04!1 14!1 24!1 34!1 44!1", x, x.shelfLine());
    }

    private static void promise28() {
        MondayFactory x = new MondayFactory();
        CHECK.dueThrow("28: empty at first", IndexOutOfBoundsException.class, () -> x.character(0));
        x.line(1);
        for (int index : Check.FAR) {
            CHECK.dueThrow("28: no index", IndexOutOfBoundsException.class, () -> x.character(index));
        }
        due("28: the first", '5', x.character(0));
        due("28: the last", ':', x.character(3));
        CHECK.dueThrow("28: behind it", IndexOutOfBoundsException.class, () -> x.character(4));
        x.tell(1, 0, 4);
        due("28: as it was written", '5', x.character(0));
        x.undo();
        x.save();
        x.restore();
        due("28: neither undone nor saved", '7', x.character(2));
        x.shelfLine();
        CHECK.dueThrow("28: empty again", IndexOutOfBoundsException.class, () -> x.character(0));
    }

    private static void promise29() {
        MondayFactory x = new MondayFactory();
        for (int i = 1; i <= 60; i++) {
            due("29: characters", i, x.append((char) (i * 1000)));
        }
        CHECK.dueThrow("29: full", IllegalStateException.class, () -> x.append('w'));
        due("29: full", 60, x.account(13));
        x.week();
        x.undo();
        due("29: not undone", 60, x.account(13));
        CHECK.dueThrow("29: an error", IllegalArgumentException.class, x::run);
        due("29: empty behind it", 1, x.append('w'));
        due("29: without the characters before", 1, x.run());
        due("29: no change by appending", 1, x.account(14));
    }

    private static void promise30() {
        MondayFactory x = new MondayFactory();
        due("30: one order", 1, Check.run(x, "h"));
        due("30: empty afterwards", 0, x.account(13));
        due("30: three orders", 3, Check.run(x, "m057;h;i0"));
        due("30: one change", 2, x.account(14));
        due("30: carried out", 1, x.account(7));
        CHECK.dueThrow("30: an empty text", IllegalArgumentException.class, x::run);
        due("30: its error", 0, x.errorPosition());
        wrongNumbers();
    }

    private static void wrongNumbers() {
        for (String text : new String[] {"m357", "b3", "t357", "t053", "m053", "i3", "i9", "o2", "s0", "r0"}) {
            MondayFactory x = Check.factory("h");
            String before = Check.state(x);
            CHECK.dueThrow("30: wrong " + text, IllegalArgumentException.class, () -> Check.run(x, "w;" + text));
            due("30: no error in " + text, -1, x.errorPosition());
            due("30: empty behind " + text, 0, x.account(13));
            due("30: nothing of " + text, before, Check.state(x));
            due("30: no change by " + text, 1, x.account(14));
            CHECK.dueThrow("30: no reason kept by " + text, NoSuchElementException.class, () -> x.refusal(false));
        }
    }

    private static void eachOrder() {
        MondayFactory x = new MondayFactory();
        Check.run(x, "m268");
        CHECK.line("30: m", "5/7:68", x, x.line(2));
        Check.run(x, "b2");
        CHECK.line("30: b", "5/7:68 --", x, x.line(2));
        Check.run(x, "t264");
        CHECK.line("30: t", "6/4:68 --", x, x.line(2));
        Check.run(x, "h;h");
        due("30: h", 2, x.account(3));
        Check.run(x, "i2");
        CHECK.line("30: i", "68!2", x, x.shelfLine());
        Check.run(x, "o0");
        due("30: o", 0, x.yawns(0));
        Check.run(x, "r0");
        CHECK.line("30: r", "5/7:87", x, x.line(0));
        Check.run(x, "w");
        CHECK.line("30: w", "5/7:87", x, x.line(1));
        Check.run(x, "m104;i1;i1;s0");
        due("30: s", 12, x.account(4) - 3);
    }

    private static void allOrNothing() {
        MondayFactory x = new MondayFactory();
        for (int i = 0; i < 9; i++) {
            x.tell(0, i, 5);
        }
        String before = Check.state(x);
        CHECK.refused("30: the last order", 1, 5, x, () -> Check.run(x, "b1;b1;b1;b1;b1;b1"));
        due("30: nothing of it", before, Check.state(x));
        CHECK.refused("30: the first refusal", 4, 1, x, () -> Check.run(x, "w;b0;i0;b9"));
        CHECK.dueThrow("30: the first that is wrong", IllegalArgumentException.class, () -> Check.run(x, "b9;i0"));
        CHECK.refused("30: hire", 1, 4, x, () -> Check.run(x, "h;h;h;h;h"));
        CHECK.refused("30: an empty belt ahead of nobody", 3, 2, x, () -> Check.run(x, "b1;i2"));
        CHECK.refused("30: tell as told just now", 2, 3, x, () -> Check.run(x, "t138;t138"));
        CHECK.refused("30: coins", 5, 1, x, () -> Check.run(x, "h;m005;i0;m005;i0;m005;i0;r0;r0;r0"));
        CHECK.refused("30: room", 1, 5, x, () -> Check.run(x, "h;m004;i0;b0;b0;b0;b0;b0;r0"));
        due("30: nothing of all", before, Check.state(x));
        due("30: no change", 8, x.account(14));
        for (int i = 7; i >= 0; i--) {
            due("30: the changes can still be undone", i, x.undo());
            due("30: undone one by one", i, x.beltOf(0, 2));
        }
    }

    private static void longTexts() {
        MondayFactory x = new MondayFactory();
        due("30: thirty orders", 30, Check.run(x, "w;".repeat(29) + "w"));
        due("30: thirty weeks", 30, x.account(5));
        Check.type(x, "w;".repeat(30));
        CHECK.dueThrow("30: an end too early", IllegalArgumentException.class, x::run);
        due("30: behind all characters", 60, x.errorPosition());
        String sixty = "t145;t146;".repeat(5) + "w;w;w;m245";
        due("30: sixty characters long", 60, sixty.length());
        due("30: sixty characters", 14, Check.run(x, sixty));
        CHECK.line("30: the last order of sixty characters", "5/7:45", x, x.line(2));
        due("30: told", 4, x.beltOf(1, 2));
    }

    private static void promise31() {
        MondayFactory x = new MondayFactory();
        due("31: no run", -1, x.errorPosition());
        String[] wrong = {"", "x", "M057", "m", "m0", "m05", "m057m", "m0577", "mx57", "m0x7", "m05x", "w;", "w;;",
            "w;x", ";w", " w", "w ", "h0", "w0", "b", "b00", "bb", "t", "t0", "t05", "t0555", "i", "i0i", "o", "o0;",
            "s", "s-", "r", "rr", "w,w", "w;h;b0;m057;t05:", "b/", "b:", "5", "w\u0000", "w\uffff", "b\u0660", "m057;"};
        int[] positions = {0, 0, 0, 1, 2, 3, 4, 4, 1, 2, 3, 2, 2,
            2, 0, 0, 1, 1, 1, 1, 2, 1, 1, 2, 3, 4, 1, 2, 1, 3,
            1, 1, 1, 1, 1, 15, 1, 1, 0, 1, 1, 1, 5};
        due("31: as many positions as texts", wrong.length, positions.length);
        for (int i = 0; i < wrong.length; i++) {
            dueError(wrong[i], positions[i]);
        }
        CHECK.dueThrow("31: too early", IllegalArgumentException.class, () -> Check.run(x, "m057;"));
        Check.type(x, "h");
        due("31: of the latest run", 5, x.errorPosition());
        x.week();
        x.undo();
        due("31: neither undone nor saved", 5, x.errorPosition());
        x.run();
        due("31: no error", -1, x.errorPosition());
        CHECK.dueThrow("31: an error", IllegalArgumentException.class, () -> Check.run(x, "h!"));
        CHECK.dueThrow("31: refused", UnsupportedOperationException.class, () -> Check.run(x, "t057"));
        due("31: a refused text has no error", -1, x.errorPosition());
        for (String text : new String[] {"b0", "b1;b2", "o0", "w;w"}) {
            Check.run(x, text);
            due("31: none in " + text, -1, x.errorPosition());
        }
    }

    private static void dueError(String text, int position) {
        MondayFactory x = new MondayFactory();
        String before = Check.state(x);
        CHECK.dueThrow("31: " + text, IllegalArgumentException.class, () -> Check.run(x, text));
        due("31: position in " + text, position, x.errorPosition());
        due("31: empty behind " + text, 0, x.account(13));
        due("31: nothing by " + text, before, Check.state(x));
    }

    private static void promise32() {
        MondayFactory x = new MondayFactory();
        CHECK.dueThrow("32: nothing", NoSuchElementException.class, () -> x.refusal(false));
        CHECK.dueThrow("32: nothing", NoSuchElementException.class, () -> x.refusal(true));
        x.make(0, 5, 5);
        CHECK.dueThrow("32: no refusal by a wrong number", IndexOutOfBoundsException.class, () -> x.inspect(3));
        CHECK.dueThrow("32: still nothing", NoSuchElementException.class, () -> x.refusal(false));
        x.save();
        CHECK.refused("32: empty", 3, 1, x, () -> x.inspect(1));
        CHECK.refused("32: the detail 0", 4, 0, x, () -> x.inspect(0));
        x.hire();
        x.inspect(0);
        due("32: of the latest refusal", 4, x.refusal(false));
        x.undo();
        x.undo();
        due("32: not undone", 4, x.refusal(false));
        x.restore();
        due("32: not restored", 4, x.refusal(false));
        CHECK.dueThrow("32: another exception", NoSuchElementException.class, x::next);
        due("32: stays", 4, x.refusal(false));
        CHECK.refused("32: by a run", 2, 5, x, () -> Check.run(x, "t057"));
    }
}
