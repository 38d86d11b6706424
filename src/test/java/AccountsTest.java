import java.util.List;
import java.util.function.Function;

/** Promises 33 to 39: accounts, shares, undo and the snapshot. */
public final class AccountsTest {
    private static final Check CHECK = new Check("AccountsTest");

    public static void main(String[] args) {
        promise33();
        promise34();
        promise35();
        promise36();
        promise37();
        undoOfEachChange();
        promise38();
        promise39();
        CHECK.end();
    }

    private static void due(String what, Object want, Object got) {
        CHECK.due(what, want, got);
    }

    private static void promise33() {
        MondayFactory x = new MondayFactory();
        for (int what : new int[] {-1, 15, Integer.MIN_VALUE, Integer.MAX_VALUE}) {
            CHECK.dueThrow("33: what", IllegalArgumentException.class, () -> x.account(what));
        }
        Check.run(x, "h;h;h;m057;i0;m057;i0;m017;i0;m027;i0;m027;i0");
        Check.run(x, "m077;i0;s0;w;s0;r0;b1;b2;m267;w;w;b0;m184;b1;b1");
        int[] accounts = {6, 4, 1, 3, 21, 3, 8, 2, 4, 1, 2, 0, 1, 0, 2};
        for (int what = 0; what <= 14; what++) {
            due("33: account " + what, accounts[what], x.account(what));
        }
        x.sell(0);
        due("33: a Friday of this week", 1, x.account(11));
        x.append('w');
        due("33: a character", 1, x.account(13));
        due("33: three changes", 3, x.account(14));
    }

    private static void promise34() {
        MondayFactory x = new MondayFactory();
        due("34: new", true, x.isWell());
        String[] texts = {"m048;m057;m057;b0;m069", "h", "i0;i0", "i0;i0;i0", "b1;m157", "r0", "s0", "w", "w",
            "m298;m298;m298;m298", "i2;i2;i2;i2", "m214;m214;i2;i2", "m214;m214;i2;i2", "m214;m214;i2;i2", "w;w", "o0"};
        for (String text : texts) {
            Check.run(x, text);
            due("34: behind " + text, true, x.isWell());
        }
        String before = Check.state(x);
        x.isWell();
        due("34: nothing changes", before, Check.state(x));
        for (int i = 0; i < 8; i++) {
            x.undo();
            due("34: behind undo", true, x.isWell());
        }
    }

    private static void promise35() {
        MondayFactory x = new MondayFactory();
        CHECK.dueThrow("35: none", ArithmeticException.class, x::meanGrey);
        x.blank(0);
        CHECK.dueThrow("35: a blank alone", ArithmeticException.class, x::meanGrey);
        x.make(1, 0, 4);
        due("35: 0", 0.0, x.meanGrey());
        x.make(0, 7, 4);
        due("35: 3.5", 3.5, x.meanGrey());
        x.make(2, 9, 4);
        due("35: 16 by 3", 16.0 / 3.0, x.meanGrey());
        Check.run(x, "h;i1");
        due("35: on the belts alone", 8.0, x.meanGrey());
    }

    private static void promise36() {
        MondayFactory x = new MondayFactory();
        CHECK.dueThrow("36: none", ArithmeticException.class, x::stampShare);
        Check.run(x, "h;b0;i0");
        CHECK.dueThrow("36: a blank alone", ArithmeticException.class, x::stampShare);
        Check.run(x, "m047;i0");
        due("36: 0", 0.0f, x.stampShare());
        Check.run(x, "m157;i1");
        due("36: one half", 0.5f, x.stampShare());
        Check.run(x, "m257;i2");
        due("36: two of three", 2.0f / 3.0f, x.stampShare());
        x.undo();
        due("36: undone", 0.5f, x.stampShare());
    }

    private static void promise37() {
        MondayFactory x = new MondayFactory();
        CHECK.dueThrow("37: none", IllegalStateException.class, x::undo);
        for (int i = 0; i < 10; i++) {
            due("37: week " + i, Math.min(i, 8), x.account(14));
            x.week();
        }
        for (int i = 1; i <= 8; i++) {
            due("37: left", 8 - i, x.undo());
            due("37: week", 10 - i, x.account(5));
            due("37: account", 8 - i, x.account(14));
        }
        CHECK.dueThrow("37: no ninth", IllegalStateException.class, x::undo);
        due("37: two weeks stay", 2, x.account(5));
        x.week();
        x.week();
        x.undo();
        x.hire();
        due("37: behind new changes", 1, x.undo());
        due("37: the hire is undone", 0, x.account(3));
        due("37: the week", 0, x.undo());
        due("37: the week is undone", 2, x.account(5));
        CHECK.dueThrow("37: none is left", IllegalStateException.class, x::undo);
        inputStays();
    }

    private static void inputStays() {
        MondayFactory x = new MondayFactory();
        x.line(0);
        Check.run(x, "m057;w");
        Check.type(x, "w;w");
        due("37: a text is one change", 0, x.undo());
        due("37: not made", 0, x.account(0));
        due("37: no week", 0, x.account(5));
        due("37: the input stays", 3, x.account(13));
        due("37: the line stays", ':', x.character(3));
        due("37: the input is run", 2, x.run());
    }

    /** Each change, behind a text that makes ready for it. */
    private static void undoOfEachChange() {
        String ready = "h;m014;i0;m057;i0;m188;b1;m267";
        String[] changes = {"m057", "b2", "t098", "i0", "i1", "i2", "h", "o0", "s0", "r0", "w", "s0;w;b0;h;i1;r0"};
        for (String text : changes) {
            MondayFactory x = new MondayFactory();
            Check.run(x, ready + (text.equals("r0") ? "" : ";m048"));
            if (text.equals("s0;w;b0;h;i1;r0")) {
                Check.run(x, "m114;i1;i1;m114;i1");
            }
            String before = Check.state(x);
            int changesBefore = x.account(14);
            Check.run(x, text);
            due("37: changed by " + text, false, before.equals(Check.state(x)));
            due("37: undone " + text, changesBefore, x.undo());
            due("37: as before " + text, before, Check.state(x));
        }
        undoOfEachCall();
    }

    private static void undoOfEachCall() {
        List<Function<MondayFactory, Object>> calls = List.of(x -> x.make(0, 6, 6), x -> x.blank(1),
            x -> x.tell(2, 1, 9), x -> x.inspect(0), MondayFactory::hire, x -> x.leave(0), x -> x.sell(0),
            x -> x.repair(0), MondayFactory::week, x -> Check.run(x, "w"));
        for (int i = 0; i < calls.size(); i++) {
            MondayFactory x = new MondayFactory();
            Check.run(x, "h;m014;i0;m057;m188;b1;m267");
            String before = Check.state(x);
            calls.get(i).apply(x);
            due("37: call " + i + " is a change", 2, x.account(14));
            due("37: call " + i + " changes", false, before.equals(Check.state(x)));
            due("37: call " + i + " undone", 1, x.undo());
            due("37: as before call " + i, before, Check.state(x));
        }
    }

    private static void promise38() {
        MondayFactory x = new MondayFactory();
        due("38: nothing", 0, x.save());
        Check.run(x, "m057;b0;b1;m299");
        due("38: carriers", 4, x.save());
        due("38: no change", 1, x.account(14));
        x.undo();
        due("38: nothing again", 0, x.save());
        x.restore();
        due("38: in place of the earlier one", 0, x.account(0));
    }

    private static void promise39() {
        MondayFactory x = new MondayFactory();
        CHECK.dueThrow("39: none", IllegalStateException.class, x::restore);
        Check.run(x, "h;h;m057;i0;m057;i0;m188;b2;t144");
        x.save();
        String saved = Check.state(x);
        Check.run(x, "m288;w;s0;o0;t098;m057");
        Check.type(x, "w;");
        x.line(0);
        due("39: carriers", 2, x.restore());
        due("39: as it was", saved, Check.state(x));
        due("39: changes are forgotten", 0, x.account(14));
        CHECK.dueThrow("39: nothing to undo", IllegalStateException.class, x::undo);
        due("39: the input stays", 2, x.account(13));
        due("39: the line stays", '9', x.character(0));
        x.append('w');
        due("39: run", 2, x.run());
        due("39: the snapshot stays", 2, x.restore());
        due("39: as it was again", saved, Check.state(x));
        x.week();
        due("39: the snapshot is no part of the state", 0, x.undo());
        due("39: as it was still", saved, Check.state(x));
        x.week();
        x.save();
        x.undo();
        x.restore();
        due("39: undo leaves the snapshot", 1, x.account(5));
    }
}
