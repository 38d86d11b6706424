/** The sentences under "Fridays" and "Repairs" that name boundary cases, each with a test of its own. */
public final class FridayTermsTest {
    private static final Check CHECK = new Check("FridayTermsTest");

    public static void main(String[] args) {
        CHECK.eachSentence(FridayTermsTest.class);
        CHECK.end();
    }

    private static void due(String what, Object want, Object got) {
        CHECK.due(what, want, got);
    }

    /** Makes a factory with a reject of that grey and alarm on the shelf, failed by the last grey on the belt 1. */
    private static MondayFactory withReject(int grey, int alarm) {
        MondayFactory x = Check.factory("h t109");
        for (int i = 0; i < 2; i++) {
            x.make(1, grey, alarm);
            x.inspect(1);
        }
        return x;
    }

    private static void duePrice(String what, int want, MondayFactory x, int reject) {
        int coins = x.account(4);
        due(what + ", told", want, x.rejectOf(reject, 4));
        due(what + ", paid", want, x.sell(reject));
        due(what + ", coins", coins + want, x.account(4));
    }

    private static void byItsGrey() {
        CHECK.sentence("A reject is sold as a Friday for 3 coins, and 1 for each that its grey lacks of 9");
        for (int grey = 0; grey <= 9; grey++) {
            MondayFactory x = withReject(grey, 7);
            due("the test 3", 3, x.rejectOf(0, 3));
            duePrice("grey " + grey + " by the test 3", 3 + 9 - grey, x, 0);
        }
        for (int grey = 0; grey <= 8; grey++) {
            MondayFactory x = Check.factory("h t094");
            x.make(0, grey, 4);
            due("the test 1", 1, x.inspect(0));
            duePrice("grey " + grey + " by the test 1", 3 + 9 - grey, x, 0);
        }
    }

    private static void byItsAlarm() {
        CHECK.sentence("and 4 more if it failed by its alarm");
        for (int grey = 0; grey <= 9; grey++) {
            MondayFactory x = Check.factory("h t004");
            x.make(0, grey, 5);
            due("the test 2", 2, x.inspect(0));
            duePrice("grey " + grey + " by the test 2", 7 + 9 - grey, x, 0);
        }
        duePrice("a late one that failed the test 1", 8, Check.factory("h m049 i0"), 0);
        duePrice("a late one of the last grey, by the test 2", 11, Check.factory("h m057 i0 m059 i0"), 0);
        duePrice("one that failed the test 3", 7, Check.factory("h m057 i0 m057 i0"), 0);
        MondayFactory x = Check.factory("h m057 i0 m057 i0 t054");
        duePrice("one that would be late by now", 7, x, 0);
        MondayFactory y = Check.factory("h m058 i0 t059");
        duePrice("one that would not be late any more", 11, y, 0);
    }

    private static void lessTheFridays() {
        CHECK.sentence("less the Fridays sold in this week so far");
        MondayFactory x = Check.factory("h");
        Check.addRejects(x, 8);
        int[] bases = {11, 10, 11, 10, 11, 10, 11, 10};
        for (int sold = 0; sold < 4; sold++) {
            duePrice("sold " + sold, bases[sold] - sold, x, 0);
        }
        x.week();
        due("all by week", "0 4", x.account(11) + " " + x.account(10));
        for (int sold = 0; sold < 4; sold++) {
            duePrice("in the week 1, sold " + sold, bases[sold] - sold, x, 0);
        }
        Check.addRejects(x, 1);
        duePrice("the fifth of the week", 11 - 4, x, 0);
        MondayFactory y = Check.factory("h m014 i0 m024 i0 s0");
        due("1 less by a Friday", 9, y.rejectOf(0, 4));
        y.undo();
        duePrice("an undone Friday does not count", 10, y, 1);
    }

    private static void oneCoinAtLeast() {
        CHECK.sentence("but for 1 coin at least");
        for (int sold = 0; sold <= 7; sold++) {
            MondayFactory x = Check.factory("h t094");
            Check.addRejects(x, sold);
            Check.call(x, "m084 i0");
            for (int i = 0; i < sold; i++) {
                x.sell(0);
            }
            int[] prices = {4, 3, 2, 1, 1, 1, 1, 1};
            duePrice("4 coins less " + sold, prices[sold], x, 0);
        }
        MondayFactory x = Check.factory("h m097 i0 m097 i0 m087 i0");
        Check.addRejects(x, 7);
        for (int i = 0; i < 2; i++) {
            x.sell(1);
        }
        duePrice("3 coins less 2", 1, x, 0);
        MondayFactory y = Check.factory("h m097 i0 m097 i0");
        Check.addRejects(y, 3);
        for (int i = 0; i < 3; i++) {
            y.sell(1);
        }
        duePrice("3 coins less 3", 1, y, 0);
    }

    private static void leavesTheShelf() {
        CHECK.sentence("It leaves the shelf");
        String[] left = {"24!1 34!1 44!1", "14!1 34!1 44!1", "14!1 24!1 44!1", "14!1 24!1 34!1"};
        for (int reject = 0; reject <= 3; reject++) {
            MondayFactory x = Check.factory("h m014 i0 m024 i0 m034 i0 m044 i0");
            x.sell(reject);
            CHECK.line("without " + reject, left[reject], x, x.shelfLine());
            due("rejects", 3, x.account(2));
            CHECK.dueThrow("no fourth", IndexOutOfBoundsException.class, () -> x.sell(3));
            Check.call(x, "s0 s0 s0");
            CHECK.line("all sold", "", x, x.shelfLine());
            CHECK.dueThrow("no first", IndexOutOfBoundsException.class, () -> x.sell(0));
        }
    }

    private static void inTheirOrder() {
        CHECK.sentence("The shelf has its rejects in the order in which they came, numbered from 0");
        MondayFactory x = Check.factory("h");
        for (int count = 0; count <= 8; count++) {
            int end = count;
            for (int reject = 0; reject < count; reject++) {
                due("grey of " + reject + " of " + count, reject % 2 + 1, x.rejectOf(reject, 0));
            }
            CHECK.dueThrow("rejectOf " + count, IndexOutOfBoundsException.class, () -> x.rejectOf(end, 0));
            CHECK.dueThrow("sell " + count, IndexOutOfBoundsException.class, () -> x.sell(end));
            CHECK.dueThrow("repair " + count, IndexOutOfBoundsException.class, () -> x.repair(end));
            CHECK.dueThrow("wouldMend " + count, IndexOutOfBoundsException.class, () -> x.wouldMend(end));
            Check.call(x, count % 2 == 0 ? "m014 i0" : "m024 i0");
        }
        for (int reject : Check.FAR) {
            CHECK.dueThrow("rejectOf " + reject, IndexOutOfBoundsException.class, () -> x.rejectOf(reject, 0));
            CHECK.dueThrow("sell " + reject, IndexOutOfBoundsException.class, () -> x.sell(reject));
            CHECK.dueThrow("repair " + reject, IndexOutOfBoundsException.class, () -> x.repair(reject));
            CHECK.dueThrow("wouldMend " + reject, IndexOutOfBoundsException.class, () -> x.wouldMend(reject));
        }
    }

    private static void coinsForRepairs() {
        CHECK.sentence("A reject is repaired for 2 coins and 1 more for each repair that it had");
        MondayFactory x = Check.factory("h m014 i0 m024 i0 m004 i0 s0 s0 t095");
        int coins = x.account(4);
        for (int repairs = 0; repairs <= 3; repairs++) {
            due("repairs", repairs, x.rejectOf(0, 2));
            due("cost told, with " + repairs, 2 + repairs, x.rejectOf(0, 5));
            due("cost, with " + repairs, 2 + repairs, x.repair(0));
            coins -= 2 + repairs;
            due("coins, with " + repairs, coins, x.account(4));
            due("repairs then", repairs + 1, x.carrier(0, 0, 3));
            x.inspect(0);
        }
        due("repairs in all", 4, x.account(12));
    }

    private static void toTheBeltZero() {
        CHECK.sentence("It goes to the end of the belt 0");
        for (int belt = 0; belt <= 2; belt++) {
            for (int carriers = 0; carriers <= 5; carriers++) {
                MondayFactory x = Check.factory("h");
                x.make(belt, 1, 4);
                x.inspect(belt);
                for (int i = 0; i < carriers; i++) {
                    x.blank(0);
                }
                String what = "from " + belt + " behind " + carriers;
                if (carriers == 5) {
                    CHECK.refused(what, 1, 5, x, () -> x.repair(0));
                    due(what + ", still a reject", 1, x.account(2));
                    due(what + ", coins", 5, x.account(4));
                } else {
                    due(what, 2, x.repair(0));
                    due(what + ", carriers", carriers + 1, x.beltOf(0, 0));
                    due(what + ", at the end", 3, x.carrier(0, carriers, 1));
                    due(what + ", left the shelf", 0, x.account(2));
                    due(what + ", on that belt alone", carriers + 1, x.account(0));
                }
            }
        }
    }

    private static void greyOfRepaired() {
        CHECK.sentence("as a Monday with 1 more repair, whose grey is 2 more, but not above 9");
        int[] want = {2, 3, 4, 5, 6, 7, 8, 9, 9, 9};
        for (int grey = 0; grey <= 9; grey++) {
            MondayFactory x = withReject(grey, 6);
            x.repair(0);
            due("grey " + grey, want[grey], x.carrier(0, 0, 1));
            due("repairs", 1, x.carrier(0, 0, 3));
            due("no blank", 0, x.carrier(0, 0, 0));
            due("not made once more", 2, x.account(6));
        }
    }

    private static void alarmOfRepaired() {
        CHECK.sentence("and whose alarm is an hour earlier, but not before 4");
        int[] want = {4, 4, 5, 6, 7, 8};
        for (int alarm = 4; alarm <= 9; alarm++) {
            MondayFactory x = withReject(5, alarm);
            x.repair(0);
            due("alarm " + alarm, want[alarm - 4], x.carrier(0, 0, 2));
        }
    }
}
