/** Promises 14 to 18: what the tests would tell. */
public final class InspectionTest {
    private static final Check CHECK = new Check("InspectionTest");
    private static final int[] NO_PLACES = {-1, 4, 5, Integer.MIN_VALUE, Integer.MAX_VALUE};

    public static void main(String[] args) {
        promise14();
        promise15();
        failsByYawns();
        promise16();
        promise17();
        promise18();
        CHECK.end();
    }

    private static void due(String what, Object want, Object got) {
        CHECK.due(what, want, got);
    }

    private static void dueFail(String what, int want, MondayFactory x, int belt, int place) {
        due(what + ", first way", want, x.wouldFail(belt, place, false));
        due(what + ", second way", want, x.wouldFail(belt, place, true));
    }

    private static void promise14() {
        MondayFactory x = new MondayFactory();
        CHECK.dueThrow("14: no place", IndexOutOfBoundsException.class, () -> x.passes(0, 0, 0));
        Check.run(x, "h;m157;i1;m157;m148;m169;b1");
        for (int belt : Check.NO_BELTS) {
            CHECK.dueThrow("14: no belt", IndexOutOfBoundsException.class, () -> x.passes(belt, 0, 0));
        }
        for (int place : NO_PLACES) {
            CHECK.dueThrow("14: no place", IndexOutOfBoundsException.class, () -> x.passes(1, place, 4));
        }
        for (int test : new int[] {0, 4, -1, Integer.MIN_VALUE, Integer.MAX_VALUE}) {
            CHECK.dueThrow("14: no test", IllegalArgumentException.class, () -> x.passes(1, 0, test));
            CHECK.dueThrow("14: no test, a blank", IllegalArgumentException.class, () -> x.passes(1, 3, test));
        }
        boolean[][] passed = {{true, true, false}, {false, false, true}, {true, false, true}, {true, true, true}};
        for (int place = 0; place < 4; place++) {
            for (int test = 1; test <= 3; test++) {
                due("14: place " + place + ", test " + test, passed[place][test - 1], x.passes(1, place, test));
            }
        }
        x.leave(0);
        due("14: without inspectors", false, x.passes(1, 0, 3));
        x.make(0, 5, 7);
        due("14: without a last grey", true, x.passes(0, 0, 3));
        MondayFactory y = Check.yawner(9);
        y.make(1, y.beltOf(1, 4), 9);
        due("14: a test left out", false, y.passes(1, 0, 2));
        due("14: another test left out", false, y.passes(1, 0, 3));
    }

    private static void promise15() {
        MondayFactory x = new MondayFactory();
        CHECK.dueThrow("15: no place first", IndexOutOfBoundsException.class, () -> x.wouldFail(0, 0, false));
        Check.run(x, "m057;m148;b1;m157;m168");
        for (boolean isAgain : new boolean[] {false, true}) {
            for (int place = 0; place < 4; place++) {
                int at = place;
                CHECK.dueThrow("15: nobody", java.util.NoSuchElementException.class, () -> x.wouldFail(1, at, isAgain));
            }
        }
        x.hire();
        for (boolean isAgain : new boolean[] {false, true}) {
            for (int belt : Check.NO_BELTS) {
                CHECK.dueThrow("15: no belt", IndexOutOfBoundsException.class, () -> x.wouldFail(belt, 0, isAgain));
            }
            for (int place : NO_PLACES) {
                CHECK.dueThrow("15: no place", IndexOutOfBoundsException.class, () -> x.wouldFail(1, place, isAgain));
            }
        }
        dueFail("15: the first of two tests", 1, x, 1, 0);
        dueFail("15: a blank", 0, x, 1, 1);
        dueFail("15: none", 0, x, 1, 2);
        dueFail("15: too late", 2, x, 1, 3);
        x.make(1, 5, 7);
        String before = Check.state(x);
        dueFail("15: in thought the last grey is that of now", 0, x, 1, 4);
        due("15: nothing changes", before, Check.state(x));
        Check.run(x, "i1;i1;i1");
        dueFail("15: the last grey now", 3, x, 1, 1);
        x.inspect(1);
        dueFail("15: another last grey now", 0, x, 1, 0);
    }

    private static void failsByYawns() {
        for (int yawns = 4; yawns <= 9; yawns++) {
            MondayFactory x = Check.yawner(yawns);
            int last = x.beltOf(1, 4);
            x.make(1, last, 7);
            dueFail("15: yawned " + yawns + ", the last grey", yawns >= 6 ? 0 : 3, x, 1, 0);
            x.make(1, last, 8);
            dueFail("15: yawned " + yawns + ", the alarm", yawns == 9 ? 0 : 2, x, 1, 1);
            x.make(1, 4, 8);
            dueFail("15: yawned " + yawns + ", the grey", 1, x, 1, 2);
            x.hire();
            dueFail("15: by the freshest", 3, x, 1, 0);
            dueFail("15: by the freshest", 2, x, 1, 1);
        }
    }

    private static void promise16() {
        MondayFactory x = new MondayFactory();
        for (int belt : Check.NO_BELTS) {
            CHECK.dueThrow("16: no belt", IndexOutOfBoundsException.class, () -> x.wouldStamp(belt));
        }
        CHECK.dueThrow("16: nobody", java.util.NoSuchElementException.class, () -> x.wouldStamp(0));
        x.blank(1);
        CHECK.dueThrow("16: nobody", java.util.NoSuchElementException.class, () -> x.wouldStamp(1));
        x.hire();
        due("16: empty", 0, x.wouldStamp(0));
        due("16: a blank", 0, x.wouldStamp(1));
        Check.run(x, "m057;m057;m067;m048;m057");
        String before = Check.state(x);
        due("16: one behind the other", 3, x.wouldStamp(0));
        due("16: nothing changes", before, Check.state(x));
        x.inspect(0);
        due("16: those stamped before do not count", 2, x.wouldStamp(0));
        MondayFactory y = Check.yawner(4);
        Check.run(y, "m099;m087;m097;m097;m099");
        due("16: yawning on the way", 4, y.wouldStamp(0));
        y.hire();
        due("16: with two inspectors", 2, y.wouldStamp(0));
        MondayFactory z = Check.yawner(6);
        Check.run(z, "m057;b0;b0;m057;m057");
        due("16: blanks on the way", 2, z.wouldStamp(0));
    }

    private static void promise17() {
        MondayFactory x = new MondayFactory();
        CHECK.dueThrow("17: none", java.util.NoSuchElementException.class, x::next);
        Check.run(x, "h;h;h");
        due("17: the lowest", 0, x.next());
        Check.run(x, "m087;i0");
        due("17: the next one", 1, x.next());
        Check.run(x, "m077;i0;m087;i0");
        due("17: the one who yawned the least", 1, x.next());
        Check.run(x, "m077;i0");
        due("17: all alike", 0, x.next());
        Check.run(x, "o0;o0;o0");
        CHECK.dueThrow("17: all gone", java.util.NoSuchElementException.class, x::next);
    }

    private static void promise18() {
        MondayFactory x = new MondayFactory();
        for (int belt : Check.NO_BELTS) {
            CHECK.dueThrow("18: no belt", IndexOutOfBoundsException.class, () -> x.leastGrey(belt));
        }
        due("18: empty", 9, x.leastGrey(0));
        x.blank(0);
        due("18: a blank alone", 9, x.leastGrey(0));
        Check.run(x, "m087;m067;m079");
        due("18: the least of them", 6, x.leastGrey(0));
        x.make(0, 0, 9);
        due("18: 0", 0, x.leastGrey(0));
        due("18: another belt", 9, x.leastGrey(1));
        Check.run(x, "m234;m254;m244");
        due("18: the front one", 3, x.leastGrey(2));
    }
}
