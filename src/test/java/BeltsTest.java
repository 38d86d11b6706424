/** Promises 1 to 13: a new object, belts and inspectors. */
public final class BeltsTest {
    private static final Check CHECK = new Check("BeltsTest");

    public static void main(String[] args) {
        promise1();
        promise2();
        promise3();
        promise4();
        promise5();
        leavingTestsOut();
        choosingInspectors();
        fullShelf();
        promise6();
        promise7();
        promise8();
        promise9();
        promise10();
        promise11();
        promise12();
        promise13();
        CHECK.end();
    }

    private static void due(String what, Object want, Object got) {
        CHECK.due(what, want, got);
    }

    private static void promise1() {
        MondayFactory x = new MondayFactory();
        for (int what = 0; what <= 14; what++) {
            due("1: account " + what, what == 4 ? 5 : 0, x.account(what));
        }
        for (int belt = 0; belt < 3; belt++) {
            int[] numbers = {0, 0, 5, 7, -1, 0, 0};
            for (int what = 0; what <= 6; what++) {
                due("1: belt " + belt + ", " + what, numbers[what], x.beltOf(belt, what));
            }
        }
    }

    private static void promise2() {
        MondayFactory x = new MondayFactory();
        for (int belt : Check.NO_BELTS) {
            CHECK.dueThrow("2: no belt", IndexOutOfBoundsException.class, () -> x.make(belt, 10, 3));
        }
        int[][] wrong = {{-1, 5}, {10, 5}, {5, 3}, {5, 10}, {Integer.MIN_VALUE, 5}, {5, Integer.MAX_VALUE}};
        for (int[] numbers : wrong) {
            CHECK.dueThrow("2: range", IllegalArgumentException.class, () -> x.make(0, numbers[0], numbers[1]));
        }
        due("2: nothing made", 0, x.account(0));
        due("2: no change", 0, x.account(14));
        due("2: first", 1, x.make(2, 0, 4));
        due("2: second", 2, x.make(2, 9, 9));
        x.make(2, 5, 5);
        x.make(2, 6, 6);
        due("2: fifth", 5, x.make(2, 7, 7));
        CHECK.line("2: in their order", "5/7:04 99 55 66 77", x, x.line(2));
        due("2: repairs", 0, x.carrier(2, 1, 3));
        due("2: made", 5, x.account(6));
        CHECK.dueThrow("2: range ahead of room", IllegalArgumentException.class, () -> x.make(2, 10, 9));
        CHECK.refused("2: full", 1, 5, x, () -> x.make(2, 5, 5));
        due("2: still made", 5, x.account(6));
        due("2: changes", 5, x.account(14));
        due("2: another belt", 1, x.make(1, 5, 5));
    }

    private static void promise3() {
        MondayFactory x = new MondayFactory();
        for (int belt : Check.NO_BELTS) {
            CHECK.dueThrow("3: no belt", IndexOutOfBoundsException.class, () -> x.blank(belt));
        }
        x.make(1, 6, 6);
        due("3: behind a Monday", 2, x.blank(1));
        CHECK.line("3: at the end", "5/7:66 --", x, x.line(1));
        due("3: not made", 1, x.account(6));
        x.blank(1);
        x.blank(1);
        x.blank(1);
        CHECK.refused("3: full", 1, 5, x, () -> x.blank(1));
        due("3: changes", 5, x.account(14));
    }

    private static void promise4() {
        MondayFactory x = new MondayFactory();
        for (int belt : Check.NO_BELTS) {
            CHECK.dueThrow("4: no belt", IndexOutOfBoundsException.class, () -> x.tell(belt, 10, 3));
        }
        int[][] wrong = {{-1, 5}, {10, 5}, {5, 3}, {5, 10}};
        for (int[] numbers : wrong) {
            CHECK.dueThrow("4: range", IllegalArgumentException.class, () -> x.tell(1, numbers[0], numbers[1]));
        }
        CHECK.refused("4: so already", 2, 5, x, () -> x.tell(1, 5, 7));
        due("4: another alarm", 5, x.tell(1, 5, 4));
        due("4: another grey", 5, x.tell(1, 0, 4));
        due("4: both", 0, x.tell(1, 9, 9));
        CHECK.refused("4: so already again", 2, 9, x, () -> x.tell(1, 9, 9));
        CHECK.line("4: told", "9/9:", x, x.line(1));
        CHECK.line("4: not told", "5/7:", x, x.line(0));
        due("4: changes", 3, x.account(14));
    }

    private static void promise5() {
        MondayFactory x = new MondayFactory();
        for (int belt : Check.NO_BELTS) {
            CHECK.dueThrow("5: no belt", IndexOutOfBoundsException.class, () -> x.inspect(belt));
        }
        CHECK.refused("5: empty ahead of no inspector", 3, 2, x, () -> x.inspect(2));
        x.week();
        x.week();
        x.make(2, 5, 7);
        CHECK.refused("5: no inspector", 4, 2, x, () -> x.inspect(2));
        x.hire();
        due("5: both limits kept just so", 0, x.inspect(2));
        due("5: left the belt", 0, x.beltOf(2, 0));
        due("5: last grey", 5, x.beltOf(2, 4));
        CHECK.refused("5: empty", 3, 2, x, () -> x.inspect(2));
        x.make(2, 5, 7);
        x.make(2, 4, 9);
        x.make(2, 6, 8);
        x.make(2, 6, 7);
        due("5: as grey as the last", 3, x.inspect(2));
        due("5: both too little and too late", 1, x.inspect(2));
        due("5: last grey of a reject", 4, x.beltOf(2, 4));
        due("5: too late", 2, x.inspect(2));
        due("5: as grey as a reject", 3, x.inspect(2));
        CHECK.line("5: shelf", "57!3 49!1 68!2 67!3", x, x.shelfLine());
        due("5: inspected", 5, x.beltOf(2, 5));
        due("5: stamped", 1, x.beltOf(2, 6));
        due("5: yawns", 5, x.yawns(0));
        x.make(0, 6, 7);
        due("5: last greys are of their belt", 0, x.inspect(0));
        blanksAndYawns();
    }

    private static void blanksAndYawns() {
        MondayFactory x = new MondayFactory();
        x.hire();
        x.blank(0);
        due("5: a blank", 0, x.inspect(0));
        due("5: not below 0", 0, x.yawns(0));
        due("5: no last grey by a blank", -1, x.beltOf(0, 4));
        due("5: a blank is not inspected", 0, x.beltOf(0, 5));
        int[] greys = {7, 8, 9};
        int[] yawned = {1, 3, 5};
        for (int i = 0; i < 3; i++) {
            x.make(0, greys[i], 7);
            due("5: passes", 0, x.inspect(0));
            due("5: yawns by grey " + greys[i], yawned[i], x.yawns(0));
        }
        x.blank(0);
        x.inspect(0);
        due("5: 1 less by a blank", 4, x.yawns(0));
        due("5: a blank keeps the last grey", 9, x.beltOf(0, 4));
        due("5: no rejects", 0, x.account(2));
        Check.run(x, "m097;i0;m087;i0;m097;i0;m087;i0");
        due("5: 9 at most", 9, x.yawns(0));
    }

    private static void leavingTestsOut() {
        int[] lastGreyTest = {3, 3, 3, 3, 3, 0, 0, 0, 0};
        int[] alarmTest = {2, 2, 2, 2, 2, 2, 2, 2, 0};
        for (int yawns = 0; yawns <= 8; yawns++) {
            MondayFactory x = Check.yawner(yawns);
            Check.run(x, "m057;i0;m057");
            due("5: yawned " + x.yawns(0) + ", the last grey", lastGreyTest[yawns], x.inspect(0));
            MondayFactory y = Check.yawner(yawns + 1);
            y.make(0, 5, 8);
            due("5: yawned " + y.yawns(0) + ", the alarm", alarmTest[yawns], y.inspect(0));
            MondayFactory z = Check.yawner(yawns + 1);
            z.make(0, 4, 8);
            due("5: yawned " + z.yawns(0) + ", the grey", 1, z.inspect(0));
        }
        MondayFactory x = Check.yawner(5);
        Check.run(x, "m087;i0;m087");
        due("5: by the yawns ahead of the inspection", 0, x.inspect(0));
        MondayFactory y = Check.yawner(8);
        y.make(0, 9, 9);
        due("5: not by those behind it", 2, y.inspect(0));
    }

    private static void choosingInspectors() {
        MondayFactory x = new MondayFactory();
        x.hire();
        x.hire();
        x.hire();
        Check.run(x, "m067;i0");
        due("5: the lowest of several", "1 0 0", Check.yawnsOf(x));
        Check.run(x, "m087;i0");
        due("5: the one who yawned the least", "1 2 0", Check.yawnsOf(x));
        Check.run(x, "m067;i0");
        due("5: the last of them", "1 2 1", Check.yawnsOf(x));
        Check.run(x, "m057;i0");
        due("5: the lowest again", "2 2 1", Check.yawnsOf(x));
        Check.run(x, "b0;i0");
        due("5: a blank's inspector", "2 2 0", Check.yawnsOf(x));
    }

    private static void fullShelf() {
        MondayFactory x = new MondayFactory();
        x.hire();
        for (int i = 0; i < 8; i++) {
            Check.run(x, i % 2 == 0 ? "m014;i0" : "m024;i0");
        }
        due("5: 8 rejects", 8, x.account(2));
        due("5: no scrap yet", 0, x.account(9));
        x.make(0, 3, 4);
        due("5: fails by a full shelf, too", 1, x.inspect(0));
        due("5: no ninth reject", 8, x.account(2));
        due("5: scrap", 1, x.account(9));
        due("5: rejected as scrap", 9, x.account(8));
        due("5: last grey of scrap", 3, x.beltOf(0, 4));
        CHECK.line("5: shelf as it was", "14!1 24!1 14!1 24!1 14!1 24!1 14!1 24!1", x, x.shelfLine());
    }

    private static void promise6() {
        MondayFactory x = new MondayFactory();
        for (int i = 0; i < 4; i++) {
            due("6: number", i, x.hire());
            due("6: not yawned", 0, x.yawns(i));
        }
        CHECK.refused("6: full", 1, 4, x, x::hire);
        due("6: still 4", 4, x.account(3));
        due("6: changes", 4, x.account(14));
        x.make(0, 8, 7);
        x.inspect(0);
        x.leave(0);
        due("6: in place of one who left", 3, x.hire());
        due("6: a new one has not yawned", "0 0 0 0", Check.yawnsOf(x));
        MondayFactory y = new MondayFactory();
        y.hire();
        Check.run(y, "m087;i0");
        y.leave(0);
        due("6: the first again", 0, y.hire());
        due("6: without the yawns of the one before", 0, y.yawns(0));
    }

    private static void promise7() {
        MondayFactory x = new MondayFactory();
        CHECK.dueThrow("7: none", IndexOutOfBoundsException.class, () -> x.leave(0));
        Check.run(x, "h;h;h;h;m067;i0;m087;i0;m167;i1");
        due("7: yawns", "1 2 1 0", Check.yawnsOf(x));
        for (int inspector : new int[] {-1, 4, Integer.MIN_VALUE, Integer.MAX_VALUE}) {
            CHECK.dueThrow("7: no such", IndexOutOfBoundsException.class, () -> x.leave(inspector));
        }
        due("7: has yawned", 2, x.leave(1));
        due("7: later ones are 1 less", "1 1 0", Check.yawnsOf(x));
        due("7: the last", 0, x.leave(2));
        CHECK.dueThrow("7: gone", IndexOutOfBoundsException.class, () -> x.leave(2));
        due("7: the first", 1, x.leave(0));
        due("7: one is left", "1", Check.yawnsOf(x));
        due("7: changes", 4, x.account(14));
    }

    private static void promise8() {
        MondayFactory x = new MondayFactory();
        CHECK.dueThrow("8: none", IndexOutOfBoundsException.class, () -> x.sell(0));
        x.hire();
        Check.run(x, "m004;i0;m098;i0;m057;i0;m057;i0");
        CHECK.line("8: shelf", "04!1 98!2 57!3", x, x.shelfLine());
        CHECK.dueThrow("8: no such", IndexOutOfBoundsException.class, () -> x.sell(-1));
        CHECK.dueThrow("8: no such", IndexOutOfBoundsException.class, () -> x.sell(3));
        due("8: by its alarm", 7, x.sell(1));
        CHECK.line("8: left the shelf", "04!1 57!3", x, x.shelfLine());
        due("8: less the Fridays of the week", 11, x.sell(0));
        due("8: coins", 23, x.account(4));
        due("8: Fridays", 2, x.account(10));
        due("8: of this week", 2, x.account(11));
        x.week();
        due("8: in a new week", 7, x.sell(0));
        due("8: Fridays so far", 3, x.account(10));
        due("8: of the new week", 1, x.account(11));
        MondayFactory y = new MondayFactory();
        y.hire();
        y.tell(0, 9, 9);
        for (int i = 0; i < 5; i++) {
            Check.run(y, i % 2 == 0 ? "m084;i0" : "m074;i0");
        }
        due("8: 3 and 1 lacking", 4, y.sell(0));
        due("8: 3 and 2 lacking, less 1", 4, y.sell(0));
        due("8: less 2", 2, y.sell(0));
        due("8: less 3", 2, y.sell(0));
        due("8: 1 at least, without any left", 1, y.sell(0));
    }

    private static void promise9() {
        MondayFactory x = new MondayFactory();
        CHECK.dueThrow("9: none", IndexOutOfBoundsException.class, () -> x.repair(0));
        x.hire();
        Check.run(x, "m014;i0;m006;i0;m029;i0");
        CHECK.dueThrow("9: no such", IndexOutOfBoundsException.class, () -> x.repair(3));
        CHECK.dueThrow("9: no such", IndexOutOfBoundsException.class, () -> x.repair(-1));
        x.blank(0);
        due("9: costs", 2, x.repair(2));
        CHECK.line("9: at the end of the belt 0", "5/7:-- 48", x, x.line(0));
        due("9: 1 more repair", 1, x.carrier(0, 1, 3));
        CHECK.line("9: left the shelf", "14!1 06!1", x, x.shelfLine());
        due("9: coins", 3, x.account(4));
        due("9: repairs", 1, x.account(12));
        due("9: not made again", 3, x.account(6));
        due("9: the alarm not before 4", 2, x.repair(0));
        CHECK.line("9: belt", "5/7:-- 48 34", x, x.line(0));
        CHECK.refused("9: one coin lacks", 5, 1, x, () -> x.repair(0));
        due("9: not repaired", 2, x.account(12));
        Check.run(x, "i0;i0");
        due("9: a repaired one costs more", 3, x.rejectOf(1, 5));
        CHECK.refused("9: two coins lack", 5, 2, x, () -> x.repair(1));
        Check.run(x, "b0;b0;b0;b0");
        CHECK.refused("9: full ahead of coins", 1, 5, x, () -> x.repair(1));
        CHECK.dueThrow("9: no such ahead of all", IndexOutOfBoundsException.class, () -> x.repair(2));
        repairsBeyond();
    }

    private static void repairsBeyond() {
        MondayFactory x = new MondayFactory();
        Check.run(x, "h;m288;i2;m298;i2;m188;i1;m178;i1");
        Check.run(x, "w;w;w;r0;r0;i0;i0");
        due("9: not above 9", 9, x.beltOf(0, 4));
        due("9: 9 twice", 3, x.rejectOf(2, 3));
        due("9: with its repairs", 1, x.rejectOf(2, 2));
        due("9: 1 more for a repair that it had", 3, x.rejectOf(2, 5));
        x.sell(0);
        due("9: the price of a second repair", 3, x.repair(1));
        due("9: two repairs", 2, x.carrier(0, 0, 3));
        due("9: two hours earlier", 6, x.carrier(0, 0, 2));
        due("9: coins", 5 - 4 + 8 - 3, x.account(4));
        exactlyEnoughCoins();
    }

    private static void exactlyEnoughCoins() {
        MondayFactory x = new MondayFactory();
        Check.run(x, "h;m004;i0;r0;i0");
        due("9: coins", 3, x.account(4));
        due("9: exactly enough coins", 3, x.repair(0));
        due("9: no coins are left", 0, x.account(4));
        CHECK.line("9: repaired twice", "5/7:44", x, x.line(0));
        x.inspect(0);
        CHECK.refused("9: all coins lack", 5, 4, x, () -> x.repair(0));
    }

    private static void promise10() {
        MondayFactory x = new MondayFactory();
        due("10: nothing there", 0, x.week());
        due("10: week", 1, x.account(5));
        Check.run(x, "m057;m067;m156;m166;m255;m265");
        due("10: a Monday is gone", 1, x.week());
        CHECK.line("10: belt 0", "5/7:67", x, x.line(0));
        CHECK.line("10: belt 1", "5/7:66 57", x, x.line(1));
        CHECK.line("10: belt 2", "5/7:65 56", x, x.line(2));
        due("10: scrap", 1, x.account(9));
        due("10: not rejected", 0, x.account(8));
        Check.run(x, "b0;w;w;w");
        CHECK.line("10: a blank moves", "5/7:", x, x.line(0));
        CHECK.line("10: a blank moved", "5/7:--", x, x.line(1));
        CHECK.line("10: the end", "5/7:57 67", x, x.line(2));
        x.week();
        x.week();
        due("10: a blank is not scrap", 0, x.week());
        due("10: scrap so far", 6, x.account(9));
        due("10: nothing is left", 0, x.account(0));
        fullBelts();
        weeksAndYawns();
        repairsAndWeeks();
    }

    private static void repairsAndWeeks() {
        MondayFactory x = new MondayFactory();
        Check.run(x, "h;m014;i0;r0;m057;w");
        due("10: repairs stay", 1, x.carrier(1, 0, 3));
        due("10: those behind have theirs", 0, x.carrier(0, 0, 3));
        Check.run(x, "m157;w");
        due("10: repairs stay again", 1, x.carrier(2, 0, 3));
    }

    private static void fullBelts() {
        MondayFactory x = new MondayFactory();
        Check.run(x, "m007;m017;m027;m037;m047;m107;m117;m127");
        Check.run(x, "m137;m147;m207;m217;m227;m237;m247");
        due("10: of full belts", 1, x.week());
        CHECK.line("10: belt 0 of 5", "5/7:17 27 37 47", x, x.line(0));
        CHECK.line("10: belt 1 of 5", "5/7:17 27 37 47 07", x, x.line(1));
        CHECK.line("10: belt 2 of 5", "5/7:17 27 37 47 07", x, x.line(2));
        MondayFactory y = new MondayFactory();
        y.make(0, 3, 4);
        y.week();
        CHECK.line("10: one belt a week", "5/7:34", y, y.line(1));
        due("10: not two", 0, y.beltOf(2, 0));
    }

    private static void weeksAndYawns() {
        MondayFactory x = new MondayFactory();
        Check.run(x, "h;h;h;m097;i0;m087;i0;m097;i0;m187;i1;m017;i0");
        due("10: yawns", "4 3 2", Check.yawnsOf(x));
        x.sell(0);
        x.week();
        due("10: 2 less", "2 1 0", Check.yawnsOf(x));
        due("10: no Fridays of the week", 0, x.account(11));
        due("10: Fridays stay", 1, x.account(10));
        due("10: the last grey stays", 1, x.beltOf(0, 4));
        x.week();
        due("10: not below 0", "0 0 0", Check.yawnsOf(x));
        due("10: changes", 4, x.account(14));
    }

    private static void promise11() {
        MondayFactory x = new MondayFactory();
        for (int belt : Check.NO_BELTS) {
            CHECK.dueThrow("11: no belt", IndexOutOfBoundsException.class, () -> x.beltOf(belt, 7));
        }
        for (int what : new int[] {-1, 7, Integer.MIN_VALUE, Integer.MAX_VALUE}) {
            CHECK.dueThrow("11: what", IllegalArgumentException.class, () -> x.beltOf(0, what));
        }
        x.hire();
        Check.run(x, "t134;m134;i1;m144;i1;m124;i1;b1;m177;b1");
        int[] numbers = {3, 2, 3, 4, 2, 3, 2};
        for (int what = 0; what <= 6; what++) {
            due("11: number " + what, numbers[what], x.beltOf(1, what));
            int untouched = what == 2 ? 5 : what == 3 ? 7 : what == 4 ? -1 : 0;
            due("11: number " + what + " of another", untouched, x.beltOf(2, what));
        }
    }

    private static void promise12() {
        MondayFactory x = new MondayFactory();
        CHECK.dueThrow("12: no place", IndexOutOfBoundsException.class, () -> x.carrier(0, 0, 9));
        x.make(1, 6, 8);
        x.blank(1);
        for (int belt : Check.NO_BELTS) {
            CHECK.dueThrow("12: no belt", IndexOutOfBoundsException.class, () -> x.carrier(belt, 0, 9));
        }
        for (int place : new int[] {-1, 2, 5, Integer.MIN_VALUE, Integer.MAX_VALUE}) {
            CHECK.dueThrow("12: no place", IndexOutOfBoundsException.class, () -> x.carrier(1, place, 0));
        }
        for (int what : new int[] {-1, 4, Integer.MIN_VALUE, Integer.MAX_VALUE}) {
            CHECK.dueThrow("12: what", IllegalArgumentException.class, () -> x.carrier(1, 0, what));
        }
        int[] monday = {0, 6, 8, 0};
        int[] blank = {1, -1, -1, -1};
        for (int what = 0; what <= 3; what++) {
            due("12: a Monday's " + what, monday[what], x.carrier(1, 0, what));
            due("12: a blank's " + what, blank[what], x.carrier(1, 1, what));
        }
    }

    private static void promise13() {
        MondayFactory x = new MondayFactory();
        CHECK.dueThrow("13: none", IndexOutOfBoundsException.class, () -> x.yawns(0));
        x.hire();
        x.hire();
        Check.run(x, "m067;i0;m087;i0");
        due("13: the first", 1, x.yawns(0));
        due("13: the second", 2, x.yawns(1));
        for (int inspector : new int[] {-1, 2, Integer.MIN_VALUE, Integer.MAX_VALUE}) {
            CHECK.dueThrow("13: no such", IndexOutOfBoundsException.class, () -> x.yawns(inspector));
        }
    }
}
