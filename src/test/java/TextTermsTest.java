import java.util.function.Function;

/** The sentences under "Texts" and "Reasons" that name boundary cases, each with a test of its own. */
public final class TextTermsTest {
    private static final Check CHECK = new Check("TextTermsTest");
    private static final String[] FORMS = {"m000", "b0", "t000", "i0", "h", "o0", "s0", "r0", "w"};
    private static final String SHELF = "h m014 i0 m024 i0 m034 i0 m044 i0 m004 i0 m014 i0 m024 i0 m034 i0";

    /** How the outcome of a text begins that has no error, but a number that is out of range. */
    private static final String OUT = "IllegalArgumentException -1 ";
    private static final Class<IllegalArgumentException> WRONG = IllegalArgumentException.class;

    public static void main(String[] args) {
        CHECK.eachSentence(TextTermsTest.class);
        CHECK.end();
    }

    private static void due(String what, Object want, Object got) {
        CHECK.due(what, want, got);
    }

    private static void dueError(String text, int position) {
        MondayFactory x = new MondayFactory();
        CHECK.dueThrow(text, WRONG, () -> Check.run(x, text));
        due("position in " + text, position, x.errorPosition());
    }

    private static void dueNoError(String text) {
        MondayFactory x = new MondayFactory();
        Check.outcome(() -> Check.run(x, text));
        due("no error in " + text, -1, x.errorPosition());
    }

    private static void atMostSixty() {
        CHECK.sentence("The input has at most 60 characters");
        MondayFactory x = new MondayFactory();
        due("at first", 0, x.account(13));
        for (int i = 1; i <= 60; i++) {
            due("character " + i, i, x.append(i % 2 == 0 ? ';' : 'w'));
        }
        CHECK.dueThrow("the character 61", IllegalStateException.class, () -> x.append('w'));
        CHECK.dueThrow("again", IllegalStateException.class, () -> x.append(';'));
        due("still 60", 60, x.account(13));
        due("the 60 are run", 29, sixty().run());
        MondayFactory y = sixty();
        Check.outcome(() -> y.append('x'));
        due("without one that found no room", 29, y.run());
        due("room again", 1, y.append('h'));
        due("one alone is run", 1, y.run());
    }

    /** Makes a factory whose input is full, with 28 weeks and a Monday. */
    private static MondayFactory sixty() {
        MondayFactory x = new MondayFactory();
        Check.type(x, "w;".repeat(28) + "m294");
        CHECK.due("the input is full", 60, x.account(13));
        return x;
    }

    private static void ordersAndSemicolons() {
        CHECK.sentence("A text consists of orders with a semicolon between two of them");
        int[] counts = {1, 2, 3, 29, 30};
        for (int count : counts) {
            MondayFactory x = new MondayFactory();
            due("orders", count, Check.run(x, "w;".repeat(count - 1) + "w"));
            due("weeks", count, x.account(5));
            due("no error", -1, x.errorPosition());
        }
        dueError("", 0);
        dueError(";", 0);
        dueError(";w", 0);
        dueError("w;", 2);
        dueError("w;;w", 2);
        dueError("ww", 1);
        dueError("w,w", 1);
        dueError("w:w", 1);
        dueError("w w", 1);
        dueError("w; w", 2);
        dueError(" w", 0);
        dueError("w ", 1);
        dueError("w\n", 1);
    }

    /** Runs an order on its own in a new factory behind some calls, and tells its outcome with a number asked for. */
    private static String ran(String orders, String order, Function<MondayFactory, Object> asked) {
        MondayFactory x = Check.factory(orders);
        String outcome = Check.outcome(() -> Check.run(x, order));
        return outcome + " " + x.errorPosition() + " " + asked.apply(x);
    }

    private static void makes() {
        CHECK.sentence("\"m\", a belt, a grey and an alarm make a Monday");
        due("the least", "1 -1 5/7:04", ran("h", "m004", x -> read(x, 0)));
        due("the greatest", "1 -1 5/7:99", ran("h", "m299", x -> read(x, 2)));
        for (String order : new String[] {"m304", "m903", "m003", "m000", "m293"}) {
            due(order, OUT + 0, ran("h", order, x -> x.account(6)));
        }
    }

    private static void blanks() {
        CHECK.sentence("\"b\" and a belt a blank");
        due("the first", "1 -1 5/7:--", ran("h", "b0", x -> read(x, 0)));
        due("the last", "1 -1 5/7:--", ran("h", "b2", x -> read(x, 2)));
        due("too great", OUT + 0, ran("h", "b3", x -> x.account(1)));
        due("far too great", OUT + 0, ran("h", "b9", x -> x.account(1)));
    }

    private static void tells() {
        CHECK.sentence("\"t\", a belt, a grey and an alarm tell its least grey and its latest alarm");
        due("the least", "1 -1 0/4:", ran("h", "t004", x -> read(x, 0)));
        due("the greatest", "1 -1 9/9:", ran("h", "t299", x -> read(x, 2)));
        for (String order : new String[] {"t204", "t209", "t294"}) {
            due(order, "1 -1 " + order.charAt(2) + "/" + order.charAt(3) + ":", ran("h", order, x -> read(x, 2)));
        }
        for (String order : new String[] {"t304", "t003", "t000", "t293", "t203"}) {
            due(order, OUT + "5/7:5/7:5/7:", ran("h", order, x -> read(x, 0) + read(x, 1) + read(x, 2)));
        }
    }

    private static void inspects() {
        CHECK.sentence("\"i\" and a belt inspect");
        due("the first", "1 -1 1", ran("h m057", "i0", x -> x.account(7)));
        due("the last", "1 -1 1", ran("h m257", "i2", x -> x.account(7)));
        due("too great", OUT + 0, ran("h m257", "i3", x -> x.account(7)));
        due("nothing there", "UnsupportedOperationException -1 0", ran("h m257", "i1", x -> x.account(7)));
    }

    private static String read(MondayFactory x, int belt) {
        StringBuilder line = new StringBuilder();
        int length = x.line(belt);
        for (int i = 0; i < length; i++) {
            line.append(x.character(i));
        }
        return line.toString();
    }

    private static void comes() {
        CHECK.sentence("\"h\" lets an inspector come");
        due("the first", "1 -1 1", ran("w", "h", x -> x.account(3)));
        due("the fourth", "1 -1 4", ran("h h h", "h", x -> x.account(3)));
        due("a fifth", "UnsupportedOperationException -1 4", ran("h h h h", "h", x -> x.account(3)));
    }

    private static void leaves() {
        CHECK.sentence("\"o\" and an inspector lets one leave");
        due("the first", "1 -1 0 0 0", ran("h h h h m067 i0", "o0", Check::yawnsOf));
        due("the last", "1 -1 1 0 0", ran("h h h h m067 i0", "o3", Check::yawnsOf));
        due("behind the last", OUT + "0 0 0 0", ran("h h h h", "o4", Check::yawnsOf));
        due("nobody there", OUT + "", ran("w", "o0", Check::yawnsOf));
        due("far behind", OUT + "0", ran("h", "o9", Check::yawnsOf));
    }

    private static void sells() {
        CHECK.sentence("\"s\" and a reject sell it");
        due("the first", "1 -1 16", ran(SHELF, "s0", x -> x.account(4)));
        due("the last", "1 -1 14", ran(SHELF, "s7", x -> x.account(4)));
        due("behind the last", OUT + 5, ran(SHELF, "s8", x -> x.account(4)));
        due("none there", OUT + 5, ran("h", "s0", x -> x.account(4)));
    }

    private static void repairs() {
        CHECK.sentence("\"r\" and a reject repair it");
        due("the first", "1 -1 5/7:34", ran(SHELF, "r0", x -> read(x, 0)));
        due("the last", "1 -1 5/7:54", ran(SHELF, "r7", x -> read(x, 0)));
        due("behind the last", OUT + "5/7:", ran(SHELF, "r8", x -> read(x, 0)));
        due("none there", OUT + "5/7:", ran("h", "r0", x -> read(x, 0)));
    }

    private static void weeks() {
        CHECK.sentence("\"w\" is a week");
        due("the first", "1 -1 1", ran("h", "w", x -> x.account(5)));
        due("the second", "1 -1 2", ran("w", "w", x -> x.account(5)));
        due("with what it does", "1 -1 1", ran("m257", "w", x -> x.account(9)));
    }

    private static void oneDigit() {
        CHECK.sentence("All numbers have one digit, and stand side by side");
        for (String form : FORMS) {
            dueNoError(form);
            dueNoError(form.replace('0', '9'));
            for (int at = 1; at < form.length(); at++) {
                for (char sign : new char[] {'/', ':', ' ', ';', 'm', '-', 0, 0x0660, 0xff10, 0xffff}) {
                    dueError(form.substring(0, at) + sign + form.substring(at + 1), at);
                }
            }
            dueError(form + "0", form.length());
            dueError("w;" + form + "9", form.length() + 2);
        }
        dueError("m00 7", 3);
        dueError("m1057", 4);
    }

    private static void firstWrongCharacter() {
        CHECK.sentence("The error position of a text is the offset of the first character that cannot continue such a"
            + " text");
        for (String form : FORMS) {
            for (char sign : new char[] {':', '/', ' ', 'w', 'x', '0', 0}) {
                dueError(form + sign, form.length());
                dueError("h;" + form + sign + "!", form.length() + 2);
            }
            dueError("x" + form, 0);
            dueError(form + ";;" + form, form.length() + 1);
            dueError(form + ";x", form.length() + 1);
        }
        dueError("w;x;y", 2);
        dueError("b;x", 1);
        dueError("w;".repeat(29) + "wx", 59);
        dueError("w;".repeat(29) + "xw", 58);
        dueError("m" + "0".repeat(59), 4);
        dueError("x".repeat(60), 0);
    }

    private static void lettersOfOrders() {
        CHECK.sentence("an order begins with \"m\", \"b\", \"t\", \"i\", \"h\", \"o\", \"s\", \"r\" or \"w\"");
        for (int sign = 0; sign < 1024; sign++) {
            MondayFactory x = new MondayFactory();
            x.append((char) sign);
            Check.outcome(x::run);
            int position = sign == 'h' || sign == 'w' ? -1 : "mbtiosr".indexOf(sign) >= 0 ? 1 : 0;
            due("the character " + sign, position, x.errorPosition());
        }
        dueError("" + (char) ('w' + 256), 0);
        dueError("" + (char) ('h' + 0x8000), 0);
        dueError("" + (char) 0xffff, 0);
    }

    private static void endsTooEarly() {
        CHECK.sentence("or the length of the text if it ends too early");
        dueError("", 0);
        for (String form : FORMS) {
            for (int end = 1; end < form.length(); end++) {
                dueError(form.substring(0, end), end);
                dueError("w;" + form.substring(0, end), end + 2);
            }
            dueError(form + ";", form.length() + 1);
            dueNoError(form);
            dueNoError(form + ";" + form);
        }
        dueError("w;".repeat(30), 60);
        dueError("w;".repeat(28) + "m05", 59);
        dueError("w;".repeat(28) + "w;m0", 60);
        dueNoError("w;".repeat(28) + "m057");
    }

    private static void oneAfterTheOther() {
        CHECK.sentence("A text is carried out if each order can be, one after the other");
        MondayFactory x = new MondayFactory();
        due("each by those before it", 5, Check.run(x, "h;m004;i0;s0;o0"));
        due("a Friday", 1, x.account(10));
        due("nobody", 0, x.account(3));
        due("in the order of the text", 3, Check.run(x, "t164;t157;t164"));
        due("the last one holds", 6, x.beltOf(1, 2));
        due("room by an order before", 7, Check.run(x, "b0;b0;b0;b0;b0;w;b0"));
        due("full again", 5, x.beltOf(0, 0));
        due("a change each", 3, x.account(14));
        MondayFactory y = Check.factory("h m004 m004 m004 m004 i0 i0 i0 i0");
        due("coins by an order before", 4, Check.run(y, "r0;r0;s0;r0"));
        due("coins", 5 - 6 + 12, y.account(4));
        MondayFactory z = Check.factory("h m004 m004 m004 m004 i0 i0 i0 i0");
        CHECK.refused("no coins by an order behind", 5, 1, z, () -> Check.run(z, "r0;r0;r0;s0"));
    }

    private static void nothingOfIt() {
        CHECK.sentence("else nothing of it is");
        String[] texts = {"i2;i2", "h;m057;i0;s0;r0;h;h;h;h", "m057;b1;t264;o0;s0;s0", "b0;b0;b0;b0;b0;b0", "w;w;w;b3",
            "t267;t267", "w;s0;r0;o9", "i0;i0;i0", "m299;w;x", "s0;w;r9", "r0;r0", "h;o0;o1;o2"};
        for (String text : texts) {
            MondayFactory x = Check.factory("h m014 i0 m057 b0 b1 m267");
            String before = Check.state(x);
            int changes = x.account(14);
            boolean isThrown = Check.outcome(() -> Check.run(x, text)).endsWith("Exception");
            due("thrown by " + text, true, isThrown);
            due("nothing of " + text, before, Check.state(x));
            due("no change by " + text, changes, x.account(14));
            due("the latest change is that before " + text, changes - 1, x.undo());
            due("undone behind " + text, 0, x.beltOf(2, 0));
        }
    }

    private static void firstDecides() {
        CHECK.sentence("and the first order that cannot be decides what is thrown");
        Class<UnsupportedOperationException> refused = UnsupportedOperationException.class;
        CHECK.dueThrow("a refused one first", refused, () -> Check.run(new MondayFactory(), "i0;b3"));
        CHECK.dueThrow("a wrong one first", WRONG, () -> Check.run(new MondayFactory(), "b3;i0"));
        CHECK.dueThrow("both behind another", refused, () -> Check.run(new MondayFactory(), "w;i0;o0"));
        CHECK.dueThrow("both behind another", WRONG, () -> Check.run(new MondayFactory(), "w;o0;i0"));
        CHECK.dueThrow("an error ahead of all", WRONG, () -> Check.run(new MondayFactory(), "i0;x"));
        MondayFactory x = new MondayFactory();
        CHECK.refused("the first of two refused", 3, 2, x, () -> Check.run(x, "i2;t057;i1"));
        CHECK.refused("the first of two refused", 2, 5, x, () -> Check.run(x, "t057;i2"));
        CHECK.dueThrow("wrong first", WRONG, () -> Check.run(x, "b3;i1"));
        due("no new reason by one behind a wrong one", 2, x.refusal(false));
        CHECK.dueThrow("an error", WRONG, () -> Check.run(x, "i1;"));
        due("no new reason by a text with an error", 2, x.refusal(false));
    }

    private static void firstReason() {
        CHECK.sentence("Something is refused for the first that applies of the reasons that its method names, in the"
            + " order in which it names them");
        MondayFactory x = Check.factory("w");
        CHECK.refused("an empty belt and nobody", 3, 1, x, () -> x.inspect(1));
        x.blank(1);
        CHECK.refused("nobody alone", 4, 1, x, () -> x.inspect(1));
        x.hire();
        CHECK.refused("an empty belt alone", 3, 2, x, () -> x.inspect(2));
        MondayFactory y = poor();
        Check.call(y, "b0 b0 b0 b0 b0");
        CHECK.refused("a full belt and too few coins", 1, 5, y, () -> y.repair(0));
        y.inspect(0);
        CHECK.refused("too few coins alone", 5, 1, y, () -> y.repair(0));
        MondayFactory z = Check.factory("h m014 i0 b0 b0 b0 b0 b0");
        CHECK.refused("a full belt alone", 1, 5, z, () -> z.repair(0));
    }

    /** Makes a factory with 1 coin, an empty belt 0 and a reject of no repairs. */
    private static MondayFactory poor() {
        return Check.factory("h m014 m024 m034 i0 i0 i0 r0 r0 w w");
    }

    private static void fullReason() {
        CHECK.sentence("1, there are 5 carriers or 4 inspectors: this number");
        MondayFactory x = Check.factory("h h h h b0 b0 b0 b0 b0 m257 m257 m257 m257");
        CHECK.refused("inspectors", 1, 4, x, x::hire);
        CHECK.refused("carriers", 1, 5, x, () -> x.make(0, 5, 7));
        CHECK.refused("inspectors by a text", 1, 4, x, () -> Check.run(x, "h"));
        CHECK.refused("carriers by a text", 1, 5, x, () -> Check.run(x, "b2;b2"));
        CHECK.refused("inspectors, ahead of carriers", 1, 4, x, () -> Check.run(x, "h;b0"));
        due("4 carriers are no reason", 5, x.blank(2));
        x.leave(3);
        due("3 inspectors are no reason", 3, x.hire());
    }

    private static void soAlreadyReason() {
        CHECK.sentence("2, it is so already: the least grey");
        for (int grey = 0; grey <= 9; grey++) {
            MondayFactory x = Check.factory("t259");
            x.tell(2, grey, 4);
            int least = grey;
            CHECK.refused("so already, " + grey, 2, grey, x, () -> x.tell(2, least, 4));
            due("not the alarm, " + grey, grey, x.tell(2, grey, 5));
            due("not the grey, " + grey, grey, x.tell(2, 9 - grey, 5));
            CHECK.refused("so on another belt", 2, 5, x, () -> x.tell(1, 5, 7));
        }
    }

    private static void emptyReason() {
        CHECK.sentence("3, the belt is empty: the belt");
        for (int belt = 0; belt <= 2; belt++) {
            int on = belt;
            MondayFactory x = Check.factory("h");
            CHECK.refused("at first", 3, belt, x, () -> x.inspect(on));
            x.blank(belt);
            due("a blank is enough", 0, x.inspect(belt));
            CHECK.refused("empty again", 3, belt, x, () -> x.inspect(on));
            CHECK.refused("by a text", 3, belt, x, () -> Check.run(x, "b" + on + ";i" + on + ";i" + on));
        }
    }

    private static void nobodyReason() {
        CHECK.sentence("4, there is no inspector: the week");
        MondayFactory x = Check.factory("b0 m057 b0");
        for (int week = 0; week <= 2; week++) {
            CHECK.refused("in the week " + week, 4, week, x, () -> x.inspect(0));
            x.week();
        }
        MondayFactory y = Check.factory("h b0 o0");
        CHECK.refused("the last one left", 4, 0, y, () -> y.inspect(0));
        y.hire();
        due("one is enough", 0, y.inspect(0));
        MondayFactory z = Check.factory("w");
        CHECK.refused("behind the weeks of a text", 4, 3, z, () -> Check.run(z, "w;w;b0;i0"));
        due("which did not go by", 1, z.account(5));
    }

    private static void coinsReason() {
        CHECK.sentence("5, there are too few coins: how many are lacking");
        MondayFactory x = poor();
        due("coins", 1, x.account(4));
        CHECK.refused("1 of 2", 5, 1, x, () -> x.repair(0));
        CHECK.refused("by a text", 5, 1, x, () -> Check.run(x, "w;r0"));
        MondayFactory y = Check.factory("h m004 i0 r0 i0");
        due("3 of 3 are enough", 3, y.repair(0));
        due("no coins", 0, y.account(4));
        Check.call(y, "i0 m014 i0");
        CHECK.refused("all of 4", 5, 4, y, () -> y.repair(0));
        CHECK.refused("all of 2", 5, 2, y, () -> y.repair(1));
        due("still no coins", 0, y.account(4));
        Check.call(y, "o0 h m097 i0 m097 i0");
        y.sell(2);
        due("3 coins by a sale", 3, y.account(4));
        CHECK.refused("1 of 4", 5, 1, y, () -> y.repair(0));
        due("3 of 2 are enough", 2, y.repair(1));
    }
}
