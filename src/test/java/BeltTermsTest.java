/** The sentences under "Belts" and "Tests" that name boundary cases, each with a test of its own. */
public final class BeltTermsTest {
    private static final Check CHECK = new Check("BeltTermsTest");

    public static void main(String[] args) {
        CHECK.eachSentence(BeltTermsTest.class);
        CHECK.end();
    }

    private static void due(String what, Object want, Object got) {
        CHECK.due(what, want, got);
    }

    private static void belts() {
        CHECK.sentence("There are the belts 0 to 2");
        for (int belt = 0; belt <= 2; belt++) {
            MondayFactory x = Check.factory("h");
            due("make on " + belt, 1, x.make(belt, 6, 7));
            due("blank on " + belt, 2, x.blank(belt));
            due("tell of " + belt, 5, x.tell(belt, 4, 7));
            due("beltOf of " + belt, 2, x.beltOf(belt, 0));
            due("carrier of " + belt, 6, x.carrier(belt, 0, 1));
            due("passes of " + belt, true, x.passes(belt, 0, 1));
            due("wouldFail of " + belt, 0, x.wouldFail(belt, 0, false));
            due("wouldStamp of " + belt, 1, x.wouldStamp(belt));
            due("leastGrey of " + belt, 6, x.leastGrey(belt));
            CHECK.line("line of " + belt, "4/7:67 --", x, x.line(belt));
            due("inspect of " + belt, 0, x.inspect(belt));
            due("a text of " + belt, 4, Check.run(x, "m" + belt + "57;b" + belt + ";t" + belt + "57;i" + belt));
            due("carriers of " + belt, 2, x.beltOf(belt, 0));
            due("no others than those of " + belt, 2, x.account(0));
        }
    }

    private static void noBelts() {
        CHECK.sentence("There are the belts 0 to 2 and no others");
        MondayFactory x = Check.factory("h m057 m157 m257");
        Class<IndexOutOfBoundsException> want = IndexOutOfBoundsException.class;
        for (int belt : Check.NO_BELTS) {
            CHECK.dueThrow("make on " + belt, want, () -> x.make(belt, 5, 7));
            CHECK.dueThrow("blank on " + belt, want, () -> x.blank(belt));
            CHECK.dueThrow("tell of " + belt, want, () -> x.tell(belt, 4, 7));
            CHECK.dueThrow("inspect of " + belt, want, () -> x.inspect(belt));
            CHECK.dueThrow("beltOf of " + belt, want, () -> x.beltOf(belt, 0));
            CHECK.dueThrow("carrier of " + belt, want, () -> x.carrier(belt, 0, 1));
            CHECK.dueThrow("passes of " + belt, want, () -> x.passes(belt, 0, 1));
            CHECK.dueThrow("wouldFail of " + belt, want, () -> x.wouldFail(belt, 0, false));
            CHECK.dueThrow("wouldFail of " + belt + " again", want, () -> x.wouldFail(belt, 0, true));
            CHECK.dueThrow("wouldStamp of " + belt, want, () -> x.wouldStamp(belt));
            CHECK.dueThrow("leastGrey of " + belt, want, () -> x.leastGrey(belt));
            CHECK.dueThrow("line of " + belt, want, () -> x.line(belt));
        }
        for (String order : new String[] {"m357", "b3", "t357", "i3", "m957", "b9", "t957", "i9"}) {
            CHECK.dueThrow("text " + order, IllegalArgumentException.class, () -> Check.run(x, order));
            due("no error in " + order, -1, x.errorPosition());
        }
        due("carriers", 3, x.account(0));
    }

    private static void atMostFiveCarriers() {
        CHECK.sentence("each with at most 5 carriers");
        for (int belt = 0; belt <= 2; belt++) {
            MondayFactory x = Check.factory("h");
            for (int carriers = 1; carriers <= 5; carriers++) {
                due("Mondays on " + belt, carriers, x.make(belt, carriers, 7));
            }
            String full = Check.state(x);
            int on = belt;
            CHECK.refused("a sixth Monday on " + belt, 1, 5, x, () -> x.make(on, 5, 7));
            CHECK.refused("a blank behind 5 on " + belt, 1, 5, x, () -> x.blank(on));
            CHECK.refused("a text for " + belt, 1, 5, x, () -> Check.run(x, "b" + on));
            due("as it was", full, Check.state(x));
            due("an inspection makes room on " + belt, 1, x.inspect(belt));
            due("a fifth again on " + belt, 5, x.blank(belt));
            CHECK.refused("a sixth again on " + belt, 1, 5, x, () -> x.blank(on));
            due("changes", 8, x.account(14));
        }
    }

    private static void fiveOfBothKinds() {
        CHECK.sentence("each with at most 5 carriers, Mondays and blanks together");
        MondayFactory x = Check.factory("b0 m057 b0 m057 b0 b1 b1 b1 b1 b1 m257 m257 m257 m257");
        CHECK.refused("a Monday behind 3 blanks and 2 Mondays", 1, 5, x, () -> x.make(0, 5, 7));
        CHECK.refused("a Monday behind 5 blanks", 1, 5, x, () -> x.make(1, 5, 7));
        due("the belt 2 has room", 5, x.blank(2));
        CHECK.refused("a blank behind 4 Mondays and a blank", 1, 5, x, () -> x.blank(2));
        due("a week makes room on the belt 0 alone", 1, x.week());
        due("room on the belt 0", 5, x.make(0, 5, 7));
        CHECK.refused("no room on the belt 1", 1, 5, x, () -> x.make(1, 5, 7));
        CHECK.refused("no room on the belt 2", 1, 5, x, () -> x.make(2, 5, 7));
    }

    private static void places() {
        CHECK.sentence("told by their places from 0 for the front one");
        MondayFactory x = Check.factory("h");
        CHECK.dueThrow("0 of an empty belt", IndexOutOfBoundsException.class, () -> x.carrier(1, 0, 1));
        for (int count = 1; count <= 5; count++) {
            int end = count;
            x.make(1, count, 7);
            due("the front one of " + count, 1, x.carrier(1, 0, 1));
            due("the last one of " + count, count, x.carrier(1, count - 1, 1));
            CHECK.dueThrow("behind " + count, IndexOutOfBoundsException.class, () -> x.carrier(1, end, 1));
            CHECK.dueThrow("behind " + count, IndexOutOfBoundsException.class, () -> x.passes(1, end, 1));
            CHECK.dueThrow("behind " + count, IndexOutOfBoundsException.class, () -> x.wouldFail(1, end, false));
            CHECK.dueThrow("behind " + count, IndexOutOfBoundsException.class, () -> x.wouldFail(1, end, true));
        }
        for (int place : Check.FAR) {
            CHECK.dueThrow("carrier " + place, IndexOutOfBoundsException.class, () -> x.carrier(1, place, 1));
            CHECK.dueThrow("passes " + place, IndexOutOfBoundsException.class, () -> x.passes(1, place, 1));
            CHECK.dueThrow("wouldFail " + place, IndexOutOfBoundsException.class, () -> x.wouldFail(1, place, true));
        }
        x.inspect(1);
        due("the second is in front", 2, x.carrier(1, 0, 1));
        due("the last one now", 5, x.carrier(1, 3, 1));
        CHECK.dueThrow("behind it now", IndexOutOfBoundsException.class, () -> x.carrier(1, 4, 1));
    }

    private static void greys() {
        CHECK.sentence("A Monday has a grey from 0 to 9");
        for (int grey = 0; grey <= 9; grey++) {
            MondayFactory x = new MondayFactory();
            due("made with " + grey, 1, x.make(0, grey, 7));
            due("grey " + grey, grey, x.carrier(0, 0, 1));
        }
        MondayFactory x = new MondayFactory();
        for (int grey : new int[] {-1, 10, Integer.MIN_VALUE, Integer.MAX_VALUE}) {
            CHECK.dueThrow("grey " + grey, IllegalArgumentException.class, () -> x.make(0, grey, 7));
        }
        due("nothing is made", 0, x.account(6));
        due("nothing is there", 0, x.account(0));
    }

    private static void alarms() {
        CHECK.sentence("an alarm, which is an hour from 4 to 9");
        for (int alarm = 4; alarm <= 9; alarm++) {
            MondayFactory x = new MondayFactory();
            due("made with " + alarm, 1, x.make(0, 5, alarm));
            due("alarm " + alarm, alarm, x.carrier(0, 0, 2));
        }
        MondayFactory x = new MondayFactory();
        for (int alarm : new int[] {3, 10, 0, -1, Integer.MIN_VALUE, Integer.MAX_VALUE}) {
            CHECK.dueThrow("alarm " + alarm, IllegalArgumentException.class, () -> x.make(0, 5, alarm));
        }
        for (String order : new String[] {"m053", "m050"}) {
            CHECK.dueThrow(order, IllegalArgumentException.class, () -> Check.run(x, order));
        }
        due("nothing is made", 0, x.account(6));
        due("nothing is there", 0, x.account(0));
    }

    private static void repairsAtFirst() {
        CHECK.sentence("and repairs, at first none");
        MondayFactory x = Check.factory("m057");
        due("made by a call", 0, x.carrier(0, 0, 3));
        Check.run(x, "m157");
        due("made by a text", 0, x.carrier(1, 0, 3));
        Check.call(x, "h m214 i2 r0 m068");
        due("repaired", 1, x.carrier(0, 1, 3));
        due("made behind a repaired one", 0, x.carrier(0, 2, 3));
    }

    private static void beltAtFirst() {
        CHECK.sentence("A belt has a least grey, at first 5, a latest alarm, at first 7, and a last grey: that of the"
            + " Monday inspected last on it, at first none");
        MondayFactory x = new MondayFactory();
        for (int belt = 0; belt <= 2; belt++) {
            due("least grey of " + belt, 5, x.beltOf(belt, 2));
            due("latest alarm of " + belt, 7, x.beltOf(belt, 3));
            due("no last grey of " + belt, -1, x.beltOf(belt, 4));
        }
        Check.call(x, "h m104 i1");
        due("a last grey of 0 is not none", 0, x.beltOf(1, 4));
        Check.call(x, "m194 i1");
        due("that of the last one", 9, x.beltOf(1, 4));
        Check.call(x, "m164 b1 i1 i1");
        due("of a Monday, not of a blank", 6, x.beltOf(1, 4));
        due("none yet on the belt 0", -1, x.beltOf(0, 4));
        due("none yet on the belt 2", -1, x.beltOf(2, 4));
        Check.call(x, "m057 w w i2");
        due("of the belt on which it is inspected", "-1 6 5",
            x.beltOf(0, 4) + " " + x.beltOf(1, 4) + " " + x.beltOf(2, 4));
    }

    private static void toldLimits() {
        CHECK.sentence("A belt has a least grey from 0 to 9 and a latest alarm from 4 to 9");
        int[][] fine = {{0, 4}, {0, 9}, {9, 4}, {9, 9}};
        for (int[] told : fine) {
            MondayFactory x = new MondayFactory();
            due("told " + told[0] + " and " + told[1], 5, x.tell(2, told[0], told[1]));
            due("least grey", told[0], x.beltOf(2, 2));
            due("latest alarm", told[1], x.beltOf(2, 3));
        }
        int[][] wrong = {{-1, 7}, {10, 7}, {5, 3}, {5, 10}, {Integer.MIN_VALUE, 7}, {Integer.MAX_VALUE, 7},
            {5, Integer.MIN_VALUE}, {5, Integer.MAX_VALUE}};
        MondayFactory x = new MondayFactory();
        for (int[] told : wrong) {
            CHECK.dueThrow("told " + told[0] + " and " + told[1], IllegalArgumentException.class,
                () -> x.tell(2, told[0], told[1]));
        }
        CHECK.line("as it was", "5/7:", x, x.line(2));
    }

    private static void tests() {
        CHECK.sentence("There are the tests 1, 2 and 3");
        MondayFactory x = Check.factory("h m057 i0 m048 m057 b0");
        boolean[][] passed = {{false, false, true}, {true, true, false}, {true, true, true}};
        for (int place = 0; place < 3; place++) {
            for (int test = 1; test <= 3; test++) {
                due("place " + place + ", test " + test, passed[place][test - 1], x.passes(0, place, test));
            }
            for (int test : new int[] {0, 4, -1, Integer.MIN_VALUE, Integer.MAX_VALUE}) {
                int at = place;
                CHECK.dueThrow("test " + test, IllegalArgumentException.class, () -> x.passes(0, at, test));
            }
        }
    }

    /** Asks all ways in which the test that the front Monday of a belt fails is told; inspects it at last. */
    private static void dueFail(String what, int want, MondayFactory x, int belt) {
        due(what + ", first way", want, x.wouldFail(belt, 0, false));
        due(what + ", second way", want, x.wouldFail(belt, 0, true));
        due(what + ", stamped", want == 0 ? 1 : 0, x.wouldStamp(belt));
        due(what + ", inspected", want, x.inspect(belt));
    }

    private static void leastGreyTest() {
        CHECK.sentence("A Monday passes the test 1 on a belt if its grey is the least grey of the belt or more");
        for (int least = 0; least <= 9; least++) {
            for (int grey = 0; grey <= 9; grey++) {
                int belt = (least + grey) % 3;
                MondayFactory x = Check.factory("h");
                x.tell(belt, least, 8);
                x.make(belt, grey, 4);
                String what = "grey " + grey + " by " + least;
                due(what, grey >= least, x.passes(belt, 0, 1));
                dueFail(what, grey >= least ? 0 : 1, x, belt);
            }
        }
    }

    private static void latestAlarmTest() {
        CHECK.sentence("the test 2 if its alarm is not later than the latest one");
        for (int latest = 4; latest <= 9; latest++) {
            for (int alarm = 4; alarm <= 9; alarm++) {
                int belt = (latest + alarm) % 3;
                MondayFactory x = Check.factory("h");
                x.tell(belt, 0, latest);
                x.make(belt, 0, alarm);
                String what = "alarm " + alarm + " by " + latest;
                due(what, alarm <= latest, x.passes(belt, 0, 2));
                dueFail(what, alarm <= latest ? 0 : 2, x, belt);
            }
        }
    }

    private static void lastGreyTest() {
        CHECK.sentence("the test 3 if its grey is not the last grey");
        for (int grey = 0; grey <= 9; grey++) {
            MondayFactory x = Check.factory("h t004");
            x.make(0, grey, 4);
            due("grey " + grey + " without a last one", true, x.passes(0, 0, 3));
            dueFail("grey " + grey + " without a last one", 0, x, 0);
            for (int next = 0; next <= 9; next++) {
                x.make(0, next, 4);
                due("grey " + next + " behind " + grey, next != grey, x.passes(0, 0, 3));
                dueFail("grey " + next + " behind " + grey, next != grey ? 0 : 3, x, 0);
                x.undo();
                x.undo();
            }
        }
    }
}
