import java.util.NoSuchElementException;
import java.util.function.BiFunction;

/** The sentences of the promises 1 to 23 that name boundary cases, each with a test of its own. */
public final class EarlierPromisesTest {
    private static final Check CHECK = new Check("EarlierPromisesTest");
    private static final Class<IndexOutOfBoundsException> NO_INDEX = IndexOutOfBoundsException.class;
    private static final Class<IllegalArgumentException> WRONG = IllegalArgumentException.class;
    private static final Class<NoSuchElementException> NONE = NoSuchElementException.class;

    public static void main(String[] args) {
        CHECK.eachSentence(EarlierPromisesTest.class);
        CHECK.end();
    }

    private static void due(String what, Object want, Object got) {
        CHECK.due(what, want, got);
    }

    private static void newObject() {
        CHECK.sentence("1: Creates a factory with empty belts, without inspectors, with 5 coins, in the week 0");
        MondayFactory x = new MondayFactory();
        due("carriers", "0 0 0", x.beltOf(0, 0) + " " + x.beltOf(1, 0) + " " + x.beltOf(2, 0));
        due("inspectors", 0, x.account(3));
        due("coins", 5, x.account(4));
        due("week", 0, x.account(5));
        due("rejects", 0, x.account(2));
        due("input, error position, reason and line",
            "0 -1 NoSuchElementException NoSuchElementException ", Check.apart(x));
        CHECK.dueThrow("no change", IllegalStateException.class, x::undo);
        CHECK.dueThrow("no snapshot", IllegalStateException.class, x::restore);
        due("all is well", true, x.isWell());
        MondayFactory y = Check.factory("h m057 w");
        due("another one is no part of it", 0, new MondayFactory().account(0));
        due("nor it of another one", 1, y.account(0));
    }

    private static void dueNoBelts(String promise, BiFunction<MondayFactory, Integer, Object> call) {
        CHECK.sentence(promise + ": Throws IndexOutOfBoundsException if there is no such belt");
        MondayFactory x = Check.factory("h m057 m157 m257");
        for (int belt : Check.NO_BELTS) {
            CHECK.dueThrow("belt " + belt, NO_INDEX, () -> call.apply(x, belt));
        }
        for (int belt = 0; belt <= 2; belt++) {
            int of = belt;
            due("belt " + belt + " is there", false, Check.outcome(() -> call.apply(x, of)).endsWith("Exception"));
        }
    }

    private static void makeOnNoBelt() {
        dueNoBelts("2", (x, belt) -> x.make(belt, 5, 7));
    }

    private static void blankOnNoBelt() {
        dueNoBelts("3", (x, belt) -> x.blank(belt));
    }

    private static void tellOfNoBelt() {
        dueNoBelts("4", (x, belt) -> x.tell(belt, 4, 7));
    }

    private static void inspectOfNoBelt() {
        dueNoBelts("5", (x, belt) -> x.inspect(belt));
    }

    private static void numberOfNoBelt() {
        dueNoBelts("11", (x, belt) -> x.beltOf(belt, 0));
    }

    private static void carrierOfNoBelt() {
        dueNoBelts("12", (x, belt) -> x.carrier(belt, 0, 0));
    }

    private static void passesOnNoBelt() {
        dueNoBelts("14", (x, belt) -> x.passes(belt, 0, 1));
    }

    private static void wouldFailOnNoBelt() {
        dueNoBelts("15, first way", (x, belt) -> x.wouldFail(belt, 0, false));
    }

    private static void wouldFailOnNoBeltAgain() {
        dueNoBelts("15, second way", (x, belt) -> x.wouldFail(belt, 0, true));
    }

    private static void wouldStampOnNoBelt() {
        dueNoBelts("16", (x, belt) -> x.wouldStamp(belt));
    }

    private static void leastGreyOfNoBelt() {
        dueNoBelts("18", (x, belt) -> x.leastGrey(belt));
    }

    private static void lineOfNoBelt() {
        dueNoBelts("26", (x, belt) -> x.line(belt));
    }

    private static void dueNoPlaces(String promise, String what, BiFunction<MondayFactory, Integer, Object> call) {
        CHECK.sentence(promise + ": Throws IndexOutOfBoundsException if there is no such " + what);
        MondayFactory x = Check.factory("h m104 i1 m114 i1 m157 b1");
        for (int place : new int[] {-1, 2, Integer.MIN_VALUE, Integer.MAX_VALUE}) {
            CHECK.dueThrow("number " + place, NO_INDEX, () -> call.apply(x, place));
        }
        for (int place = 1; place >= 0; place--) {
            int at = place;
            due("number " + place + " is there", false, Check.outcome(() -> call.apply(x, at)).endsWith("Exception"));
        }
        MondayFactory y = new MondayFactory();
        CHECK.dueThrow("where nothing is", NO_INDEX, () -> call.apply(y, 0));
    }

    private static void carrierOfNoPlace() {
        dueNoPlaces("12", "belt or place", (x, place) -> x.carrier(1, place, 0));
    }

    private static void passesOfNoPlace() {
        dueNoPlaces("14", "belt or place", (x, place) -> x.passes(1, place, 1));
    }

    private static void wouldFailOfNoPlace() {
        dueNoPlaces("15", "belt or place", (x, place) -> x.wouldFail(1, place, false));
    }

    private static void wouldFailOfNoPlaceAgain() {
        dueNoPlaces("15, second way", "belt or place", (x, place) -> x.wouldFail(1, place, true));
    }

    private static void sellOfNoReject() {
        dueNoPlaces("8", "reject", (x, reject) -> x.sell(reject));
    }

    private static void repairOfNoReject() {
        dueNoPlaces("9", "reject", (x, reject) -> x.repair(reject));
    }

    private static void numberOfNoReject() {
        dueNoPlaces("19", "reject", (x, reject) -> x.rejectOf(reject, 0));
    }

    private static void wouldMendNoReject() {
        dueNoPlaces("23", "reject", (x, reject) -> x.wouldMend(reject));
    }

    private static final int[][] OUT_OF_RANGE = {{-1, 7}, {10, 7}, {5, 3}, {5, 10}, {-1, 3}, {10, 10},
        {Integer.MIN_VALUE, 7}, {Integer.MAX_VALUE, 7}, {5, Integer.MIN_VALUE}, {5, Integer.MAX_VALUE}};
    private static final int[][] IN_RANGE = {{0, 4}, {0, 9}, {9, 4}, {9, 9}};

    private static void makeOutOfRange() {
        CHECK.sentence("2: Throws IllegalArgumentException if a number is out of range");
        MondayFactory x = new MondayFactory();
        for (int[] numbers : OUT_OF_RANGE) {
            CHECK.dueThrow(numbers[0] + " and " + numbers[1], WRONG, () -> x.make(1, numbers[0], numbers[1]));
        }
        for (int i = 0; i < 4; i++) {
            due(IN_RANGE[i][0] + " and " + IN_RANGE[i][1], i + 1, x.make(1, IN_RANGE[i][0], IN_RANGE[i][1]));
        }
    }

    private static void tellOutOfRange() {
        CHECK.sentence("4: Throws IllegalArgumentException if a number is out of range");
        MondayFactory x = new MondayFactory();
        for (int[] numbers : OUT_OF_RANGE) {
            CHECK.dueThrow(numbers[0] + " and " + numbers[1], WRONG, () -> x.tell(1, numbers[0], numbers[1]));
        }
        int before = 5;
        for (int[] numbers : IN_RANGE) {
            due(numbers[0] + " and " + numbers[1], before, x.tell(1, numbers[0], numbers[1]));
            before = numbers[0];
        }
    }

    private static void makeWithoutRoom() {
        CHECK.sentence("2: Throws UnsupportedOperationException if it is refused for reason 1");
        MondayFactory x = Check.factory("b0 b0 b0 b0");
        due("the fifth", 5, x.make(0, 5, 7));
        CHECK.refused("a sixth", 1, 5, x, () -> x.make(0, 5, 7));
        due("another belt", 1, x.make(2, 5, 7));
    }

    private static void blankWithoutRoom() {
        CHECK.sentence("3: Throws UnsupportedOperationException if it is refused for reason 1");
        MondayFactory x = Check.factory("m157 m157 m157 m157");
        due("the fifth", 5, x.blank(1));
        CHECK.refused("a sixth", 1, 5, x, () -> x.blank(1));
        due("another belt", 1, x.blank(2));
    }

    private static void carriersThen() {
        CHECK.sentence("2 and 3: Returns how many carriers the belt has then");
        MondayFactory x = new MondayFactory();
        for (int carriers = 1; carriers <= 5; carriers++) {
            due("of the belt 1", carriers, carriers % 2 == 0 ? x.blank(1) : x.make(1, 5, 7));
        }
        due("of the belt 0 alone, by make", 1, x.make(0, 5, 7));
        due("of the belt 2 alone, by blank", 1, x.blank(2));
    }

    private static void make() {
        CHECK.sentence("2: Makes a Monday at the end of a belt");
        MondayFactory x = Check.factory("m157");
        CHECK.line("the first", "5/7:57", x, x.line(1));
        Check.call(x, "b1 m168 m179 m104");
        CHECK.line("the last", "5/7:57 -- 68 79 04", x, x.line(1));
        due("made", 4, x.account(6));
    }

    private static void blank() {
        CHECK.sentence("3: Puts a blank at the end of a belt");
        MondayFactory x = Check.factory("b0");
        CHECK.line("the first", "5/7:--", x, x.line(0));
        Check.call(x, "m099 b0 b0 b0");
        CHECK.line("the last", "5/7:-- 99 -- -- --", x, x.line(0));
        due("blanks", 4, x.account(1));
        due("not made", 1, x.account(6));
    }

    private static void tell() {
        CHECK.sentence("4: Returns the least grey before");
        MondayFactory x = new MondayFactory();
        due("at first", 5, x.tell(0, 9, 7));
        due("the greatest", 9, x.tell(0, 0, 7));
        due("the least", 0, x.tell(0, 4, 7));
        due("the same", 4, x.tell(0, 4, 4));
        due("of the belt told", 5, x.tell(1, 1, 7));
    }

    private static void tellWhatIsSo() {
        CHECK.sentence("4: Throws UnsupportedOperationException if it is refused for reason 2, if both are so already");
        MondayFactory x = new MondayFactory();
        CHECK.refused("both at first", 2, 5, x, () -> x.tell(0, 5, 7));
        due("the grey alone", 5, x.tell(0, 5, 4));
        due("the alarm alone", 5, x.tell(0, 4, 4));
        CHECK.refused("both", 2, 4, x, () -> x.tell(0, 4, 4));
        due("what another belt has is none", 5, x.tell(2, 4, 4));
    }

    private static void inspect() {
        CHECK.sentence("5: Returns 0 if it is a blank or passes, otherwise the number of the test that it fails");
        MondayFactory x = Check.factory("h b0 m057 m048 m098 m097");
        int[] want = {0, 0, 1, 2, 3};
        for (int test : want) {
            due("test " + test, test, x.inspect(0));
        }
    }

    private static void inspectRefused() {
        CHECK.sentence("5: Throws UnsupportedOperationException if it is refused for reason 3 or 4");
        MondayFactory x = Check.factory("w w b2");
        CHECK.refused("empty and nobody", 3, 0, x, () -> x.inspect(0));
        CHECK.refused("nobody for a blank", 4, 2, x, () -> x.inspect(2));
        due("the blank is still there", 1, x.beltOf(2, 1));
        x.hire();
        CHECK.refused("empty", 3, 0, x, () -> x.inspect(0));
        due("neither", 0, x.inspect(2));
    }

    private static void hire() {
        CHECK.sentence("6: Returns the number of the inspector");
        MondayFactory x = new MondayFactory();
        for (int number = 0; number <= 3; number++) {
            due("number", number, x.hire());
        }
        x.leave(0);
        due("the last one again", 3, x.hire());
    }

    private static void hireRefused() {
        CHECK.sentence("6: Throws UnsupportedOperationException if it is refused for reason 1");
        MondayFactory x = Check.factory("h h h");
        due("a fourth", 3, x.hire());
        CHECK.refused("a fifth", 1, 4, x, x::hire);
    }

    private static void leave() {
        CHECK.sentence("7: Returns how often this one has yawned");
        due("never", 0, Check.factory("h h h h m067 i0").leave(3));
        due("9 times", 9, Check.yawner(9).leave(0));
        due("once", 1, Check.factory("h h m067 i0 m087 i0").leave(0));
        due("twice", 2, Check.factory("h h m067 i0 m087 i0").leave(1));
    }

    private static void leaveOfNobody() {
        CHECK.sentence("7: Throws IndexOutOfBoundsException if there is no such inspector");
        MondayFactory x = Check.factory("h h h");
        CHECK.dueThrow("behind the last", NO_INDEX, () -> x.leave(3));
        CHECK.dueThrow("before the first", NO_INDEX, () -> x.leave(-1));
        due("the last", 0, x.leave(2));
        CHECK.dueThrow("the last is gone", NO_INDEX, () -> x.leave(2));
        Check.call(x, "o1 o0");
        CHECK.dueThrow("nobody there", NO_INDEX, () -> x.leave(0));
    }

    private static void sell() {
        CHECK.sentence("8: Returns the price");
        due("the greatest", 16, Check.factory("h t004 m005 i0").sell(0));
        due("the least", 1, Check.factory("h m097 i0 m097 i0 m004 i0 m004 i0 s1 s1").sell(0));
        MondayFactory x = Check.factory("h m004 i0");
        due("the only one", 12, x.sell(0));
        CHECK.dueThrow("gone", NO_INDEX, () -> x.sell(0));
        due("coins", 17, x.account(4));
    }

    private static void repair() {
        CHECK.sentence("9: Returns what it costs");
        MondayFactory x = Check.factory("h m004 i0");
        due("the first time", 2, x.repair(0));
        x.inspect(0);
        due("the second time", 3, x.repair(0));
        due("coins", 0, x.account(4));
    }

    private static void repairRefused() {
        CHECK.sentence("9: Throws UnsupportedOperationException if it is refused for reason 1, for the belt 0, or 5");
        MondayFactory x = Check.factory("h m004 i0 r0 i0 r0 i0 m014 i0");
        CHECK.refused("no coins", 5, 2, x, () -> x.repair(1));
        Check.call(x, "b0 b0 b0 b0 b0");
        CHECK.refused("no room, either", 1, 5, x, () -> x.repair(1));
        MondayFactory y = Check.factory("h m104 i1 b1 b1 b1 b1 b1 b2 b2 b2 b2 b2 b0 b0 b0 b0");
        due("full belts but for the belt 0", 2, y.repair(0));
        due("in its last place", 5, y.beltOf(0, 0));
    }

    private static void week() {
        CHECK.sentence("10: Returns how many Mondays become scrap by that");
        MondayFactory x = Check.factory("m257 m257 m257 m257 m257");
        due("of five", 1, x.week());
        due("left", 4, x.beltOf(2, 0));
        MondayFactory y = Check.factory("m057 m157");
        due("one comes", 0, y.week());
        due("and goes", 1, y.week());
        due("and another one", 1, y.week());
        due("none", 0, y.week());
        MondayFactory z = Check.factory("b2 m257");
        due("a blank", 0, z.week());
        due("a Monday behind it", 1, z.week());
    }

    private static void dueBelt(String what, String want, MondayFactory x, int belt) {
        StringBuilder got = new StringBuilder();
        for (int number = 0; number <= 6; number++) {
            got.append(number == 0 ? "" : " ").append(x.beltOf(belt, number));
        }
        due(what, want, got.toString());
    }

    private static void beltOf() {
        CHECK.sentence("11: 0 for its carriers, 1 for its blanks, 2 for its least grey, 3 for its latest alarm, 4 for"
            + " its last grey, -1 without one, 5 for the Mondays inspected on it so far, 6 for those of them that were"
            + " stamped");
        MondayFactory x = Check.factory("h t104");
        dueBelt("the least", "0 0 0 4 -1 0 0", x, 1);
        Check.call(x, "m104 i1");
        dueBelt("one stamped, its grey 0", "0 0 0 4 0 1 1", x, 1);
        Check.call(x, "t199 m189 i1 b1 b1 b1 b1 b1");
        dueBelt("one rejected, five blanks", "5 5 9 9 8 2 1", x, 1);
        Check.call(x, "i1 m199");
        dueBelt("a blank goes, a Monday comes", "5 4 9 9 8 2 1", x, 1);
        dueBelt("another belt", "0 0 5 7 -1 0 0", x, 2);
        Check.addRejects(x, 8);
        dueBelt("scrap is inspected, too", "0 0 5 7 2 8 0", x, 0);
    }

    private static void noNumberOfBelts() {
        CHECK.sentence("11: Throws IllegalArgumentException if what is not from 0 to 6");
        MondayFactory x = new MondayFactory();
        for (int what : new int[] {-1, 7, Integer.MIN_VALUE, Integer.MAX_VALUE}) {
            CHECK.dueThrow("what " + what, WRONG, () -> x.beltOf(2, what));
        }
        due("the first", 0, x.beltOf(2, 0));
        due("the last", 0, x.beltOf(2, 6));
    }

    private static void dueCarrier(String what, String want, MondayFactory x, int belt, int place) {
        due(what, want, x.carrier(belt, place, 0) + " " + x.carrier(belt, place, 1) + " " + x.carrier(belt, place, 2)
            + " " + x.carrier(belt, place, 3));
    }

    private static void carrier() {
        CHECK.sentence("12: 0 for 1 if it is a blank, and 0 otherwise, 1 for the grey, 2 for the alarm, 3 for the"
            + " repairs, all -1 for a blank");
        MondayFactory x = Check.factory("h m004 i0 r0 m004 m099 b0");
        dueCarrier("a repaired one", "0 2 4 1", x, 0, 0);
        dueCarrier("the least", "0 0 4 0", x, 0, 1);
        dueCarrier("the greatest", "0 9 9 0", x, 0, 2);
        dueCarrier("a blank", "1 -1 -1 -1", x, 0, 3);
        Check.call(x, "i0 r0");
        dueCarrier("repaired twice", "0 4 4 2", x, 0, 3);
    }

    private static void noNumberOfCarriers() {
        CHECK.sentence("12: Throws IllegalArgumentException if what is not from 0 to 3");
        MondayFactory x = Check.factory("m057 b0");
        for (int what : new int[] {-1, 4, Integer.MIN_VALUE, Integer.MAX_VALUE}) {
            CHECK.dueThrow("of a Monday, " + what, WRONG, () -> x.carrier(0, 0, what));
            CHECK.dueThrow("of a blank, " + what, WRONG, () -> x.carrier(0, 1, what));
        }
        due("the first and the last", "0 0", x.carrier(0, 0, 0) + " " + x.carrier(0, 0, 3));
    }

    private static void yawns() {
        CHECK.sentence("13: Returns how often an inspector has yawned");
        for (int yawns = 0; yawns <= 9; yawns++) {
            due("times", yawns, Check.yawner(yawns).yawns(0));
        }
    }

    private static void yawnsOfNobody() {
        CHECK.sentence("13: Throws IndexOutOfBoundsException if there is no such inspector");
        MondayFactory x = new MondayFactory();
        CHECK.dueThrow("nobody", NO_INDEX, () -> x.yawns(0));
        Check.call(x, "h h h h");
        due("the last", 0, x.yawns(3));
        CHECK.dueThrow("behind the last", NO_INDEX, () -> x.yawns(4));
        CHECK.dueThrow("before the first", NO_INDEX, () -> x.yawns(-1));
    }

    private static void passes() {
        CHECK.sentence("14: Tells whether a Monday would pass a test on its belt now, be it left out or not");
        MondayFactory x = Check.yawner(9);
        Check.call(x, "m057 i0 m058 m057 m047 m099");
        String[] want = {"true false false", "true true false", "false true true", "true false true"};
        for (int place = 0; place < 4; place++) {
            due("place " + place, want[place], passed(x, 0, place));
        }
        x.tell(0, 4, 9);
        due("as the belt is now", "true true", x.passes(0, 2, 1) + " " + x.passes(0, 3, 2));
    }

    private static String passed(MondayFactory x, int belt, int place) {
        return x.passes(belt, place, 1) + " " + x.passes(belt, place, 2) + " " + x.passes(belt, place, 3);
    }

    private static void blankPasses() {
        CHECK.sentence("14: Returns whether it would, true for a blank");
        due("where nothing was inspected", "true true true", passed(Check.factory("b1"), 1, 0));
        due("by the strictest limits", "true true true", passed(Check.factory("h m057 i0 t094 b0"), 0, 0));
        due("unlike a Monday", "false false false", passed(Check.factory("h m057 i0 t094 b0 m057"), 0, 1));
        due("behind a Monday", "true true true", passed(Check.factory("h m057 i0 t094 m057 b0"), 0, 1));
    }

    private static void noSuchTest() {
        CHECK.sentence("14: Throws IllegalArgumentException if there is no such test");
        MondayFactory x = Check.factory("m057 b0");
        for (int test : new int[] {0, 4, -1, Integer.MIN_VALUE, Integer.MAX_VALUE}) {
            CHECK.dueThrow("of a Monday, " + test, WRONG, () -> x.passes(0, 0, test));
            CHECK.dueThrow("of a blank, " + test, WRONG, () -> x.passes(0, 1, test));
        }
        due("the first and the last", "true true", x.passes(0, 0, 1) + " " + x.passes(0, 0, 3));
    }

    private static void wouldFail() {
        CHECK.sentence("15: Returns the number of the test, 0 if none");
        MondayFactory x = Check.factory("h m057 i0 m048 m059 m057 m067 b0");
        int[] want = {1, 2, 3, 0, 0};
        for (int place = 0; place < 5; place++) {
            due("first way, place " + place, want[place], x.wouldFail(0, place, false));
            due("second way, place " + place, want[place], x.wouldFail(0, place, true));
        }
    }

    private static void wouldFailByNobody() {
        CHECK.sentence("15: Throws NoSuchElementException if there is no inspector");
        MondayFactory x = Check.factory("m057 b0 m048");
        for (int place = 0; place < 3; place++) {
            int at = place;
            CHECK.dueThrow("first way, place " + place, NONE, () -> x.wouldFail(0, at, false));
            CHECK.dueThrow("second way, place " + place, NONE, () -> x.wouldFail(0, at, true));
        }
        CHECK.dueThrow("no place, and nobody", NO_INDEX, () -> x.wouldFail(0, 3, false));
        CHECK.dueThrow("no belt, and nobody", NO_INDEX, () -> x.wouldFail(3, 0, true));
        x.hire();
        due("by one", "0 0", x.wouldFail(0, 0, false) + " " + x.wouldFail(0, 1, true));
    }

    private static void wouldStamp() {
        CHECK.sentence("16: Returns how many of the Mondays on a belt would be stamped if all its carriers were"
            + " inspected, one behind the other");
        MondayFactory x = Check.factory("h");
        due("an empty belt", 0, x.wouldStamp(0));
        String[] orders = {"b0", "m057", "m057", "m067", "m057"};
        int[] want = {0, 1, 1, 2, 3};
        for (int i = 0; i < 5; i++) {
            Check.call(x, orders[i]);
            due("behind " + orders[i], want[i], x.wouldStamp(0));
        }
        due("all five", 5, Check.factory("h m257 m267 m277 m257 m267").wouldStamp(2));
        due("none of five", 0, Check.factory("h m247 m237 m227 m217 m207").wouldStamp(2));
        MondayFactory y = Check.factory("h");
        Check.addRejects(y, 8);
        Check.call(y, "m014 m024 m057 m034");
        due("by a full shelf", 1, y.wouldStamp(0));
        due("which stays as it is", "8 0", y.account(2) + " " + y.account(9));
    }

    private static void wouldStampByNobody() {
        CHECK.sentence("16: Throws NoSuchElementException if there is no inspector");
        MondayFactory x = Check.factory("m057 b1");
        for (int belt = 0; belt <= 2; belt++) {
            int of = belt;
            CHECK.dueThrow("nobody for " + belt, NONE, () -> x.wouldStamp(of));
        }
        CHECK.dueThrow("no belt, and nobody", NO_INDEX, () -> x.wouldStamp(3));
        x.hire();
        due("by one", "1 0 0", x.wouldStamp(0) + " " + x.wouldStamp(1) + " " + x.wouldStamp(2));
    }

    private static void stampsOnTheWay() {
        CHECK.sentence("16: inspected one behind the other, by inspectors who yawn on the way");
        int[] threes = {1, 1, 1, 1, 2, 3, 3, 3, 3, 3};
        int[] lates = {1, 1, 1, 1, 1, 1, 2, 3, 4, 4};
        for (int yawns = 0; yawns <= 9; yawns++) {
            MondayFactory x = Check.yawner(yawns);
            Check.call(x, "m077 m077 m077");
            due("as grey as the last one, from " + yawns, threes[yawns], x.wouldStamp(0));
            Check.call(x, "m257 m269 m259 m269");
            due("too late, from " + yawns, lates[yawns], x.wouldStamp(2));
        }
        MondayFactory y = Check.yawner(6);
        Check.call(y, "m077 b0 b0 m077 m077");
        due("blanks bring yawns back", 2, y.wouldStamp(0));
        y.hire();
        due("two take turns", 1, y.wouldStamp(0));
    }

    private static void next() {
        CHECK.sentence("17: Returns the inspector who would inspect now");
        MondayFactory x = Check.factory("h");
        due("the only one", 0, x.next());
        Check.call(x, "m067 i0 h");
        due("the last, who has not yawned", 1, x.next());
        Check.call(x, "m057 i0");
        due("the lowest of two alike", 0, x.next());
        Check.call(x, "m067 i0 o1");
        due("the only one left", 0, x.next());
    }

    private static void nobodyIsNext() {
        CHECK.sentence("17: Throws NoSuchElementException if there is none");
        MondayFactory x = new MondayFactory();
        CHECK.dueThrow("at first", NONE, x::next);
        x.hire();
        due("one", 0, x.next());
        x.leave(0);
        CHECK.dueThrow("all left", NONE, x::next);
    }

    private static void leastGrey() {
        CHECK.sentence("18: Returns the greatest number that a belt could have as its least grey so that all its"
            + " Mondays pass the test 1");
        for (int grey = 0; grey <= 9; grey++) {
            MondayFactory x = Check.factory("m099");
            x.make(0, grey, 7);
            x.make(0, 9, 7);
            due("of 9, " + grey + " and 9", grey, x.leastGrey(0));
            x.tell(0, grey, 9);
            due("all pass by it", "true true true", x.passes(0, 0, 1) + " " + x.passes(0, 1, 1) + " "
                + x.passes(0, 2, 1));
            if (grey < 9) {
                x.tell(0, grey + 1, 9);
                due("not by 1 more", false, x.passes(0, 1, 1));
            }
        }
    }

    private static void leastGreyWithoutMondays() {
        CHECK.sentence("18: Returns the number, 9 without a Monday");
        MondayFactory x = Check.factory("h m057");
        due("an empty belt beside another", 9, x.leastGrey(1));
        Check.call(x, "b2 b2 b2 b2 b2");
        due("blanks alone", 9, x.leastGrey(2));
        x.inspect(0);
        due("empty again", 9, x.leastGrey(0));
        Check.call(x, "b0 m089 b0");
        due("between blanks", 8, x.leastGrey(0));
    }

    private static void dueReject(String what, String want, MondayFactory x, int reject) {
        StringBuilder got = new StringBuilder();
        for (int number = 0; number <= 5; number++) {
            got.append(number == 0 ? "" : " ").append(x.rejectOf(reject, number));
        }
        due(what, want, got.toString());
    }

    private static void rejectOf() {
        CHECK.sentence("19: 0 for its grey, 1 for its alarm, 2 for its repairs, 3 for the test that it failed, 4 for"
            + " its price now, 5 for what a repair would cost");
        MondayFactory x = Check.factory("h m004 i0 m099 i0 m094 i0");
        dueReject("the test 1", "0 4 0 1 12 2", x, 0);
        dueReject("the test 2", "9 9 0 2 7 2", x, 1);
        dueReject("the test 3", "9 4 0 3 3 2", x, 2);
        Check.call(x, "r0 t004 t097 i0 o0 h m097 i0");
        dueReject("a repaired one", "2 4 1 1 10 3", x, 2);
        x.sell(0);
        dueReject("its price now, behind a Friday", "2 4 1 1 9 3", x, 1);
        dueReject("3 coins less 1", "9 4 0 3 2 2", x, 0);
        x.sell(1);
        dueReject("3 coins less 2", "9 4 0 3 1 2", x, 0);
        x.week();
        dueReject("in a new week", "9 4 0 3 3 2", x, 0);
    }

    private static void noNumberOfRejects() {
        CHECK.sentence("19: Throws IllegalArgumentException if what is not from 0 to 5");
        MondayFactory x = Check.factory("h m014 i0");
        for (int what : new int[] {-1, 6, Integer.MIN_VALUE, Integer.MAX_VALUE}) {
            CHECK.dueThrow("what " + what, WRONG, () -> x.rejectOf(0, what));
        }
        due("the first and the last", "1 2", x.rejectOf(0, 0) + " " + x.rejectOf(0, 5));
    }

    private static void best() {
        CHECK.sentence("20: Returns the reject with the greatest price now, of several the lowest");
        MondayFactory x = Check.factory("h t094 m074 i0");
        due("the only one", 0, x.best());
        Check.call(x, "m074 i0");
        due("the lowest of two", 0, x.best());
        Check.call(x, "m064 i0");
        due("the dearest", 2, x.best());
        Check.call(x, "m064 i0 m074 i0 m064 i0 m074 i0 m054 i0");
        due("the last of eight", 7, x.best());
        x.sell(7);
        due("the lowest of three", 2, x.best());
        Check.call(x, "s0 s0");
        due("in its new place", 0, x.best());
        due("1 coin and 2", 1, rejectsBehind(4, 7, 6).best());
        due("1 coin and 1 that would else be more", 0, rejectsBehind(5, 7, 6).best());
    }

    private static void noneIsBest() {
        CHECK.sentence("20: Throws NoSuchElementException if there is none");
        MondayFactory x = Check.factory("h");
        CHECK.dueThrow("at first", NONE, x::best);
        Check.call(x, "m014 i0");
        due("one", 0, x.best());
        x.sell(0);
        CHECK.dueThrow("all sold", NONE, x::best);
    }

    /** Makes rejects of the test 1 on the belt 0, behind so many Fridays in the week. */
    private static MondayFactory rejectsBehind(int fridays, int... greys) {
        MondayFactory x = Check.factory("h t094");
        for (int i = 0; i < fridays; i++) {
            Check.call(x, "m004 i0 s0");
        }
        for (int grey : greys) {
            x.make(0, grey, 4);
            x.inspect(0);
        }
        return x;
    }

    /** The coins that rejects of those greys bring in this order, by the words of the document. */
    private static int brought(int fridays, int... greys) {
        int coins = 0;
        for (int i = 0; i < greys.length; i++) {
            coins += Math.max(1, 12 - greys[i] - fridays - i);
        }
        return coins;
    }

    private static final int[][] SHELVES = {{}, {0}, {8}, {8, 0}, {0, 8}, {8, 8, 8, 8}, {8, 8, 8, 8, 7}, {0, 0, 0, 0},
        {8, 7, 6, 5, 4, 3, 2, 1}, {1, 2, 3, 4, 5, 6, 7, 8}, {8, 8, 8, 8, 8, 8, 8, 0}, {8, 8, 8, 8, 8, 8, 8, 8}};

    private static void allPrices() {
        CHECK.sentence("21: Returns the coins that all rejects would bring, sold one behind the other in their order");
        for (int[] greys : SHELVES) {
            for (int fridays = 0; fridays <= 12; fridays += 1 + fridays / 2) {
                MondayFactory x = rejectsBehind(fridays, greys);
                String what = greys.length + " rejects behind " + fridays;
                int coins = x.account(4);
                due(what + ", first way", brought(fridays, greys), x.allPrices(false));
                due(what + ", second way", brought(fridays, greys), x.allPrices(true));
                due(what + ", still there", greys.length, x.account(2));
                for (int i = 0; i < greys.length; i++) {
                    x.sell(0);
                }
                due(what + ", sold", coins + brought(fridays, greys), x.account(4));
                due("nothing is left", 0, x.allPrices(false) + x.allPrices(true));
            }
        }
    }

    private static void bestOrder() {
        CHECK.sentence("22: Returns how many coins more all rejects would bring if they were sold in the best order,"
            + " which is that by their prices now, the greatest first");
        for (int[] greys : SHELVES) {
            int[] sorted = greys.clone();
            java.util.Arrays.sort(sorted);
            for (int fridays = 0; fridays <= 12; fridays += 1 + fridays / 2) {
                MondayFactory x = rejectsBehind(fridays, greys);
                int more = brought(fridays, sorted) - brought(fridays, greys);
                due(greys.length + " rejects behind " + fridays, more, x.bestOrder());
                due("still there", greys.length, x.account(2));
                int coins = x.account(4);
                int all = x.allPrices(true);
                for (int i = 0; i < greys.length; i++) {
                    x.sell(x.best());
                }
                due("sold, the best first", coins + all + more, x.account(4));
            }
        }
    }

    private static void wouldMend() {
        CHECK.sentence("23: Tells whether a reject would pass all tests on the belt 0 behind its repair, as the belt is"
            + " now");
        int[] repairedGreys = {2, 3, 4, 5, 6, 7, 8, 9, 9};
        int[] repairedAlarms = {4, 4, 5, 6, 7, 8};
        for (int grey = 0; grey <= 8; grey++) {
            for (int limit = 0; limit <= 9; limit++) {
                MondayFactory x = Check.factory("h t294");
                x.make(2, grey, 4);
                x.inspect(2);
                x.tell(0, limit, 4);
                due("grey " + grey + " by " + limit, repairedGreys[grey] >= limit, x.wouldMend(0));
            }
        }
        for (int alarm = 4; alarm <= 9; alarm++) {
            for (int limit = 4; limit <= 9; limit++) {
                MondayFactory x = Check.factory("h t299");
                x.make(2, 5, alarm);
                x.inspect(2);
                x.tell(0, 0, limit);
                due("alarm " + alarm + " by " + limit, repairedAlarms[alarm - 4] <= limit, x.wouldMend(0));
            }
        }
        for (int last = 0; last <= 9; last++) {
            MondayFactory x = Check.factory("h t004 t299 m284 i2 m254 i2");
            x.make(0, last, 4);
            x.inspect(0);
            due("9 behind " + last, last != 9, x.wouldMend(0));
            due("7 behind " + last, last != 7, x.wouldMend(1));
        }
    }
}
