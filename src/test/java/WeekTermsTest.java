/** The sentences under "Weeks" and "Lines" that name boundary cases, each with a test of its own. */
public final class WeekTermsTest {
    private static final Check CHECK = new Check("WeekTermsTest");

    public static void main(String[] args) {
        CHECK.eachSentence(WeekTermsTest.class);
        CHECK.end();
    }

    private static void due(String what, Object want, Object got) {
        CHECK.due(what, want, got);
    }

    private static void frontOfTheBeltTwo() {
        CHECK.sentence("first the front carrier of the belt 2 is gone, a Monday as scrap");
        MondayFactory x = new MondayFactory();
        due("an empty belt", 0, x.week());
        Check.call(x, "m257 b2 m267");
        due("a Monday", 1, x.week());
        CHECK.line("the front one alone", "5/7:-- 67", x, x.line(2));
        due("scrap", 1, x.account(9));
        due("a blank", 0, x.week());
        CHECK.line("a blank is gone, too", "5/7:67", x, x.line(2));
        due("a blank is no scrap", 1, x.account(9));
        due("the last one", 1, x.week());
        due("empty again", 0, x.week());
        due("two are scrap", 2, x.account(9));
        due("scrap of a week is not rejected", 0, x.account(8));
        due("nor inspected", 0, x.beltOf(2, 5));
        due("no last grey by that", -1, x.beltOf(2, 4));
        due("weeks", 5, x.account(5));
    }

    private static void beltsMoveOn() {
        CHECK.sentence("then the front one of the belt 1 goes to the end of the belt 2, and that of the belt 0 to the"
            + " end of the belt 1");
        for (int all = 0; all < 216; all++) {
            int[] count = {all % 6, all / 6 % 6, all / 36};
            MondayFactory x = new MondayFactory();
            for (int belt = 0; belt <= 2; belt++) {
                for (int i = 0; i < count[belt]; i++) {
                    x.make(belt, 3 * i % 10, 4 + belt);
                }
            }
            due("scrap of " + all, count[2] > 0 ? 1 : 0, x.week());
            String[] lines = new String[3];
            for (int belt = 0; belt <= 2; belt++) {
                StringBuilder line = new StringBuilder("5/7:");
                for (int i = 1; i < count[belt]; i++) {
                    line.append(i == 1 ? "" : " ").append(3 * i % 10).append(4 + belt);
                }
                if (belt > 0 && count[belt - 1] > 0) {
                    line.append(count[belt] > 1 ? " " : "").append("0").append(4 + belt - 1);
                }
                lines[belt] = line.toString();
                CHECK.line("belt " + belt + " of " + all, lines[belt], x, x.line(belt));
            }
        }
    }

    private static void frontsOfAllKinds() {
        CHECK.sentence("the front one, a blank or a Monday with its repairs, goes on");
        MondayFactory x = Check.factory("h m014 i0 r0 b0 w w b1");
        due("one week on", "1 0", x.carrier(1, 0, 0) + " " + x.carrier(2, 0, 0));
        due("repairs stay", 1, x.carrier(2, 0, 3));
        due("a repaired one is scrap", 1, x.week());
        due("a blank moved on", 1, x.carrier(2, 0, 0));
        due("the blank behind it stays", "1 1", x.carrier(1, 0, 0) + " " + x.beltOf(1, 0));
        due("blanks", 2, x.account(1));
        due("a blank goes", 0, x.week());
        due("blanks then", 1, x.account(1));
    }

    private static void yawnsByWeeks() {
        CHECK.sentence("then each inspector has yawned 2 times less, but not below 0");
        int[] want = {0, 0, 0, 1, 2, 3, 4, 5, 6, 7};
        for (int yawns = 0; yawns <= 9; yawns++) {
            MondayFactory x = Check.yawner(yawns);
            x.week();
            due("from " + yawns, want[yawns], x.yawns(0));
        }
        MondayFactory x = Check.factory("h m284 i2 m294 i2 h m184 i1 m164 i1 h m084 i0 h m274 i2");
        due("each", "4 3 2 1", Check.yawnsOf(x));
        x.week();
        due("each, a week on", "2 1 0 0", Check.yawnsOf(x));
        x.week();
        due("each, two weeks on", "0 0 0 0", Check.yawnsOf(x));
        due("nobody there", 0, new MondayFactory().week());
    }

    private static void noFridaysInTheNewWeek() {
        CHECK.sentence("and no Fridays were sold in the week that begins");
        MondayFactory x = Check.factory("h m014 i0 m024 i0 m034 i0 s0");
        due("one", 1, x.account(11));
        due("its price shows in the next", 9, x.rejectOf(0, 4));
        x.week();
        due("none", 0, x.account(11));
        due("the price is as in any week", 10, x.rejectOf(0, 4));
        Check.call(x, "s0 s0");
        due("two", 2, x.account(11));
        due("three in all", 3, x.account(10));
        Check.call(x, "w w");
        due("none again", 0, x.account(11));
        due("still three in all", 3, x.account(10));
    }

    private static void lineOfABelt() {
        CHECK.sentence("The line of a belt has its least grey, \"/\", its latest alarm and \":\", and for each carrier"
            + " from the front one on its grey and its alarm side by side");
        MondayFactory x = Check.factory("t004");
        CHECK.line("the least numbers of an empty belt", "0/4:", x, x.line(0));
        x.tell(0, 9, 9);
        CHECK.line("the greatest numbers of an empty belt", "9/9:", x, x.line(0));
        StringBuilder line = new StringBuilder("9/9:");
        String[] carriers = {"04", "99", "09", "94", "57"};
        for (int i = 0; i < 5; i++) {
            Check.call(x, "m0" + carriers[i]);
            line.append(i == 0 ? "" : " ").append(carriers[i]);
            CHECK.line("carriers " + (i + 1), line.toString(), x, x.line(0));
        }
        due("its greatest length", 18, x.line(0));
        CHECK.line("of the belt asked for alone", "5/7:", x, x.line(1));
    }

    private static void blanksInALine() {
        CHECK.sentence("or \"--\" for a blank, with a blank between two");
        MondayFactory x = Check.factory("b2");
        CHECK.line("one blank", "5/7:--", x, x.line(2));
        Check.call(x, "m257 b2");
        CHECK.line("on both sides", "5/7:-- 57 --", x, x.line(2));
        Check.call(x, "b2 b2");
        CHECK.line("in a row, in a full belt", "5/7:-- 57 -- -- --", x, x.line(2));
        MondayFactory y = Check.factory("m057 b0 m094");
        CHECK.line("as in the document", "5/7:57 -- 94", y, y.line(0));
    }

    private static void lineOfTheShelf() {
        CHECK.sentence("The line of the shelf has for each reject its grey, its alarm and \"!\" with the number of the"
            + " test, with a blank between two");
        MondayFactory x = Check.factory("h");
        CHECK.line("none", "", x, x.shelfLine());
        String[] orders = {"m004", "m049", "m099", "m094", "m094", "m089", "m084", "m084"};
        String[] rejects = {"04!1", "49!1", "99!2", "94!3", "94!3", "89!2", "84!3", "84!3"};
        StringBuilder line = new StringBuilder();
        for (int i = 0; i < orders.length; i++) {
            if (i > 0) {
                Check.call(x, "w w w");
            }
            Check.call(x, orders[i] + " i0");
            line.append(i == 0 ? "" : " ").append(rejects[i]);
            CHECK.line("behind " + (i + 1), line.toString(), x, x.shelfLine());
        }
        due("its greatest length", 39, x.shelfLine());
        Check.call(x, "w w w m014 i0");
        CHECK.line("scrap is not on it", line.toString(), x, x.shelfLine());
    }
}
