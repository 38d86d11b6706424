/** The sentences under "Inspectors" and "Inspecting" that name boundary cases, each with a test of its own. */
public final class InspectorTermsTest {
    private static final Check CHECK = new Check("InspectorTermsTest");

    public static void main(String[] args) {
        CHECK.eachSentence(InspectorTermsTest.class);
        CHECK.end();
    }

    private static void due(String what, Object want, Object got) {
        CHECK.due(what, want, got);
    }

    private static void atMostFour() {
        CHECK.sentence("At most 4 inspectors are there, numbered from 0");
        MondayFactory x = new MondayFactory();
        for (int count = 0; count <= 4; count++) {
            int end = count;
            due("inspectors", count, x.account(3));
            for (int number = 0; number < count; number++) {
                due("yawns of " + number, 0, x.yawns(number));
            }
            CHECK.dueThrow("no number " + count, IndexOutOfBoundsException.class, () -> x.yawns(end));
            CHECK.dueThrow("number " + count + " cannot leave", IndexOutOfBoundsException.class, () -> x.leave(end));
            if (count < 4) {
                due("number", count, x.hire());
            }
        }
        for (int number : Check.FAR) {
            CHECK.dueThrow("yawns of " + number, IndexOutOfBoundsException.class, () -> x.yawns(number));
            CHECK.dueThrow(number + " cannot leave", IndexOutOfBoundsException.class, () -> x.leave(number));
        }
        CHECK.refused("a fifth", 1, 4, x, x::hire);
        CHECK.refused("a fifth by a text", 1, 4, x, () -> Check.run(x, "h"));
        due("still 4", 4, x.account(3));
        x.leave(2);
        due("a fourth again", 3, x.hire());
        CHECK.refused("a fifth again", 1, 4, x, x::hire);
        Check.call(x, "o3 o2 o1 o0");
        due("nobody is left", 0, x.account(3));
        CHECK.dueThrow("no number 0 any more", IndexOutOfBoundsException.class, () -> x.yawns(0));
        due("the first again", 0, x.hire());
    }

    /** Makes four inspectors, who have yawned 4, 3, 2 and 1 times. */
    private static MondayFactory fourYawners() {
        return Check.factory("h m284 i2 m294 i2 h m184 i1 m164 i1 h m084 i0 h m274 i2");
    }

    private static void numbersBecomeLess() {
        CHECK.sentence("when one leaves, the numbers of the later ones become 1 less");
        due("all", "4 3 2 1", Check.yawnsOf(fourYawners()));
        String[] left = {"3 2 1", "4 2 1", "4 3 1", "4 3 2"};
        for (int inspector = 0; inspector <= 3; inspector++) {
            MondayFactory x = fourYawners();
            due("yawns of " + inspector, 4 - inspector, x.leave(inspector));
            due("those left by " + inspector, left[inspector], Check.yawnsOf(x));
            CHECK.dueThrow("no fourth", IndexOutOfBoundsException.class, () -> x.yawns(3));
            due("a new one is the last", 3, x.hire());
            due("with those left by " + inspector, left[inspector] + " 0", Check.yawnsOf(x));
        }
    }

    private static void yawnsAtFirst() {
        CHECK.sentence("Each has yawned from 0 to 9 times, at first 0");
        for (int yawns = 0; yawns <= 9; yawns++) {
            MondayFactory x = Check.yawner(yawns);
            due("so often", yawns, x.yawns(0));
            due("the next one at first, beside " + yawns, 1, x.hire());
            due("not yet", 0, x.yawns(1));
        }
        MondayFactory x = Check.yawner(12);
        due("no tenth time", 9, x.yawns(0));
        x.leave(0);
        x.hire();
        due("in the place of one with 9", 0, x.yawns(0));
    }

    /** Makes a factory whose only inspector has yawned so often, and on whose belt 0 the last grey is 5. */
    private static MondayFactory yawnerBehindFive(int yawns) {
        MondayFactory x = Check.factory("h m057 i0 o0 h");
        Check.letYawn(x, yawns);
        return x;
    }

    private static void lastGreyLeftOut() {
        CHECK.sentence("One who has yawned 6 times or more leaves the test 3 out");
        for (int yawns = 0; yawns <= 9; yawns++) {
            MondayFactory x = yawnerBehindFive(yawns);
            x.make(0, 5, 7);
            due("yawned " + yawns, yawns >= 6 ? 0 : 3, x.inspect(0));
            due("stamped by one with " + yawns, yawns >= 6 ? 2 : 1, x.beltOf(0, 6));
        }
    }

    private static void alarmLeftOut() {
        CHECK.sentence("and one with 9 the test 2, too");
        for (int yawns = 0; yawns <= 9; yawns++) {
            MondayFactory x = yawnerBehindFive(yawns);
            x.make(0, 6, 8);
            due("yawned " + yawns, yawns == 9 ? 0 : 2, x.inspect(0));
            MondayFactory y = yawnerBehindFive(yawns);
            y.make(0, 5, 9);
            due("yawned " + yawns + ", both tests", yawns == 9 ? 0 : 2, y.inspect(0));
            MondayFactory z = yawnerBehindFive(yawns);
            z.make(0, 4, 4);
            due("yawned " + yawns + ", never the test 1", 1, z.inspect(0));
        }
    }

    /** Asks for the next inspector, and lets a Monday be inspected, by which the yawns of that one grow. */
    private static void dueInspector(String yawns, int inspector, String behind, MondayFactory x) {
        due("yawns", yawns, Check.yawnsOf(x));
        due("the next of " + yawns, inspector, x.next());
        Check.call(x, "m177 i1");
        due("yawns behind " + yawns, behind, Check.yawnsOf(x));
    }

    private static void leastYawned() {
        CHECK.sentence("is inspected by the inspector who has yawned the least, of several the lowest");
        dueInspector("0", 0, "1", Check.factory("h"));
        dueInspector("0 0 0 0", 0, "1 0 0 0", Check.factory("h h h h"));
        dueInspector("1 0 0 0", 1, "1 1 0 0", Check.factory("h h h h m067 i0"));
        dueInspector("4 3 2 1", 3, "4 3 2 2", fourYawners());
        MondayFactory x = fourYawners();
        Check.call(x, "m264 i2");
        dueInspector("4 3 2 2", 2, "4 3 3 2", x);
        MondayFactory y = fourYawners();
        Check.call(y, "m264 i2 m284 i2 m264 i2");
        dueInspector("4 3 4 3", 1, "4 4 4 3", y);
        MondayFactory z = Check.factory("h h h m097 i0 m087 i0 m097 i0 b0 i0");
        dueInspector("1 2 2", 0, "2 2 2", z);
        dueInspector("2 2 2", 0, "3 2 2", z);
    }

    private static void leavesTheBelt() {
        CHECK.sentence("The front carrier of a belt is inspected and leaves the belt");
        MondayFactory x = Check.factory("h m257 b2 m248 m298 m297 m156 m056");
        String[] lines = {"5/7:57 -- 48 98 97", "5/7:-- 48 98 97", "5/7:48 98 97", "5/7:98 97", "5/7:97", "5/7:"};
        int[] answers = {0, 0, 1, 2, 3};
        for (int i = 0; i < 5; i++) {
            CHECK.line("before " + i, lines[i], x, x.line(2));
            due("inspection " + i, answers[i], x.inspect(2));
            CHECK.line("behind " + i, lines[i + 1], x, x.line(2));
        }
        CHECK.refused("the belt is empty", 3, 2, x, () -> x.inspect(2));
        CHECK.line("the belt 0", "5/7:56", x, x.line(0));
        CHECK.line("the belt 1", "5/7:56", x, x.line(1));
    }

    private static void inTheirOrder() {
        CHECK.sentence("A Monday is put to the tests that are not left out, in their order, until it fails one");
        // Each row: the yawns, the least grey, then what fails by a late one of the last grey, and by an early one.
        int[][] rows = {{0, 6, 1, 1}, {0, 5, 2, 3}, {5, 6, 1, 1}, {5, 5, 2, 3}, {6, 6, 1, 1}, {6, 5, 2, 0},
            {8, 6, 1, 1}, {8, 5, 2, 0}, {9, 6, 1, 1}, {9, 5, 0, 0}};
        for (int[] row : rows) {
            for (int late = 0; late <= 1; late++) {
                MondayFactory x = yawnerBehindFive(row[0]);
                x.tell(0, row[1], 6);
                x.make(0, 5, 7 - late);
                int want = row[2 + late];
                due("yawned " + row[0] + ", least " + row[1] + ", early " + late, want, x.inspect(0));
                due("the test on the shelf", want, x.account(2) == 0 ? 0 : x.rejectOf(0, 3));
            }
        }
    }

    private static void lastGreyThen() {
        CHECK.sentence("its grey is the last grey of the belt then");
        MondayFactory x = Check.factory("h m097 i0");
        due("of one that passes", 9, x.beltOf(0, 4));
        Check.call(x, "m007 i0");
        due("of one that fails the test 1", 0, x.beltOf(0, 4));
        Check.call(x, "m069 i0");
        due("of one that fails the test 2", 6, x.beltOf(0, 4));
        Check.call(x, "m067 i0");
        due("of one that fails the test 3", 6, x.beltOf(0, 4));
        Check.addRejects(x, 5);
        due("the shelf is full", 8, x.account(2));
        Check.call(x, "m037 i0");
        due("of one that is scrap", 3, x.beltOf(0, 4));
        due("scrap", 1, x.account(9));
    }

    private static void stampedThen() {
        CHECK.sentence("If it fails none, it is stamped");
        MondayFactory x = Check.factory("h");
        due("none yet", 0, x.account(7));
        Check.call(x, "m057 i0");
        due("one", 1, x.account(7));
        due("of the belt", 1, x.beltOf(0, 6));
        due("no reject", 0, x.account(2));
        due("not rejected", 0, x.account(8));
        Check.call(x, "m057 i0 m058 i0 m048 i0 b0 i0");
        due("neither a reject nor a blank", 1, x.account(7));
        Check.addRejects(x, 5);
        Check.call(x, "m257 i2");
        due("beside a full shelf", 2, x.account(7));
        due("no scrap", 0, x.account(9));
    }

    private static void atTheEndOfTheShelf() {
        CHECK.sentence("Else it is a reject, with the number of that test, at the end of the shelf");
        MondayFactory x = Check.factory("h m069 i0");
        CHECK.line("the first", "69!2", x, x.shelfLine());
        Check.call(x, "m067 i0");
        CHECK.line("the second", "69!2 67!3", x, x.shelfLine());
        Check.call(x, "m147 i1");
        CHECK.line("the third", "69!2 67!3 47!1", x, x.shelfLine());
        Check.call(x, "s0 m209 i2");
        CHECK.line("behind a sale", "67!3 47!1 09!1", x, x.shelfLine());
        Check.call(x, "w r1 i0");
        CHECK.line("a repaired one, from the middle", "67!3 09!1 66!3", x, x.shelfLine());
        due("rejected", 5, x.account(8));
    }

    private static void atMostEightRejects() {
        CHECK.sentence("the shelf has at most 8 rejects, and if it is full, the Monday is scrap");
        MondayFactory x = Check.factory("h");
        for (int count = 1; count <= 8; count++) {
            Check.addRejects(x, 1);
            due("rejects", count, x.account(2));
            due("no scrap", 0, x.account(9));
        }
        String shelf = "14!1 14!1 14!1 14!1 14!1 14!1 14!1 14!1";
        for (int scrap = 1; scrap <= 2; scrap++) {
            x.make(0, 3, 4);
            due("fails all the same", 1, x.inspect(0));
            due("scrap", scrap, x.account(9));
            due("rejected, also as scrap", 8 + scrap, x.account(8));
            CHECK.line("the shelf as it was", shelf, x, x.shelfLine());
        }
        CHECK.dueThrow("no reject 8", IndexOutOfBoundsException.class, () -> x.rejectOf(8, 0));
        due("the reject 7", 1, x.rejectOf(7, 0));
        Check.call(x, "s0 m044 i0");
        due("room again by a sale", "8 2", x.account(2) + " " + x.account(9));
        due("at the end", 4, x.rejectOf(7, 0));
        Check.call(x, "r0 m034 i0 i0");
        due("room by a repair for one", "8 3", x.account(2) + " " + x.account(9));
        due("the repaired one is on it", 1, x.rejectOf(7, 2));
    }

    private static void yawnsByGrey() {
        CHECK.sentence("The inspector yawns once by a Monday, and once more by one with a grey of 8 or 9");
        for (int grey = 0; grey <= 9; grey++) {
            MondayFactory x = Check.factory("h h");
            x.make(0, grey, 4);
            x.inspect(0);
            due("passing or not, by " + grey, grey >= 8 ? "2 0" : "1 0", Check.yawnsOf(x));
            MondayFactory y = Check.factory("h h");
            y.make(0, grey, 9);
            y.inspect(0);
            due("failing, by " + grey, grey >= 8 ? "2 0" : "1 0", Check.yawnsOf(y));
        }
        MondayFactory x = Check.factory("h");
        Check.addRejects(x, 4);
        Check.call(x, "o0 h");
        Check.addRejects(x, 4);
        Check.call(x, "o0 h m084 i0 m099 i0");
        due("by scrap", 4, x.yawns(0));
        due("it was scrap", 1, x.account(9));
    }

    private static void nineTimesInAll() {
        CHECK.sentence("up to 9 times in all");
        int[][] rows = {{6, 7, 7}, {6, 8, 8}, {7, 7, 8}, {7, 8, 9}, {8, 0, 9}, {8, 7, 9}, {8, 8, 9}, {8, 9, 9},
            {9, 0, 9}, {9, 7, 9}, {9, 8, 9}, {9, 9, 9}};
        for (int[] row : rows) {
            MondayFactory x = Check.yawner(row[0]);
            x.make(2, row[1], 7);
            x.inspect(2);
            due("from " + row[0] + " by a grey of " + row[1], row[2], x.yawns(0));
            x.blank(2);
            x.inspect(2);
            due("1 less behind that", row[2] - 1, x.yawns(0));
        }
    }

    private static void blanks() {
        CHECK.sentence("A blank is let through: its inspector has yawned 1 time less then, but not below 0, and the"
            + " last grey stays");
        for (int yawns = 0; yawns <= 9; yawns++) {
            MondayFactory x = Check.yawner(yawns);
            Check.call(x, "b0 b1");
            due("let through by one with " + yawns, 0, x.inspect(0));
            due("1 less than " + yawns, Math.max(0, yawns - 1), x.yawns(0));
            due("still no last grey", -1, x.beltOf(0, 4));
            int last = x.beltOf(1, 4);
            due("let through again", 0, x.inspect(1));
            due("2 less than " + yawns, Math.max(0, yawns - 2), x.yawns(0));
            due("the last grey stays", last, x.beltOf(1, 4));
            due("no reject", 0, x.account(2) + x.account(8) + x.account(9));
        }
        MondayFactory x = Check.factory("h h m087 i0 b0 i0");
        due("the freshest inspects a blank, too", "2 0", Check.yawnsOf(x));
    }
}
