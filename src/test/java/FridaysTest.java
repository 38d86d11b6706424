import java.util.NoSuchElementException;

/** Promises 19 to 23: prices of rejects, and whether a repair would do. */
public final class FridaysTest {
    private static final Check CHECK = new Check("FridaysTest");

    public static void main(String[] args) {
        promise19();
        promise20();
        promise21();
        promise22();
        promise23();
        CHECK.end();
    }

    private static void due(String what, Object want, Object got) {
        CHECK.due(what, want, got);
    }

    /** Makes rejects of the test 1, of the greys given as digits; each belt's least grey lets them fail. */
    private static MondayFactory shelfOf(String greys) {
        MondayFactory x = new MondayFactory();
        Check.run(x, "h;t094;t194");
        for (int i = 0; i < greys.length(); i++) {
            Check.type(x, "m0");
            x.append(greys.charAt(i));
            Check.run(x, "4;i0");
        }
        return x;
    }

    private static void sellNewRejects(MondayFactory x, int howMany) {
        for (int i = 0; i < howMany; i++) {
            Check.run(x, "m184;i1");
            x.sell(x.account(2) - 1);
        }
    }

    private static void promise19() {
        MondayFactory x = new MondayFactory();
        CHECK.dueThrow("19: none", IndexOutOfBoundsException.class, () -> x.rejectOf(0, 6));
        Check.run(x, "h;m038;i0;m069;i0;m067;i0;r0;i0");
        CHECK.dueThrow("19: no such", IndexOutOfBoundsException.class, () -> x.rejectOf(3, 6));
        for (int reject : Check.FAR) {
            CHECK.dueThrow("19: no such", IndexOutOfBoundsException.class, () -> x.rejectOf(reject, 0));
        }
        for (int what : new int[] {-1, 6, Integer.MIN_VALUE, Integer.MAX_VALUE}) {
            CHECK.dueThrow("19: what", IllegalArgumentException.class, () -> x.rejectOf(0, what));
        }
        CHECK.line("19: two", "69!2 67!3", x, x.shelfLine());
        Check.run(x, "m028;i0;r2;i0");
        int[][] numbers = {{6, 9, 0, 2, 10, 2}, {6, 7, 0, 3, 6, 2}, {4, 7, 1, 1, 8, 3}};
        for (int reject = 0; reject < 3; reject++) {
            for (int what = 0; what <= 5; what++) {
                due("19: reject " + reject + ", " + what, numbers[reject][what], x.rejectOf(reject, what));
            }
        }
        x.sell(1);
        due("19: price now", 9, x.rejectOf(0, 4));
        due("19: price now of a later one", 7, x.rejectOf(1, 4));
        x.week();
        due("19: price in a new week", 10, x.rejectOf(0, 4));
        MondayFactory y = shelfOf("8");
        for (int i = 0; i < 5; i++) {
            due("19: the price falls, but to 1 alone", Math.max(1, 4 - i), y.rejectOf(0, 4));
            sellNewRejects(y, 1);
        }
    }

    private static void promise20() {
        CHECK.dueThrow("20: none", NoSuchElementException.class, () -> new MondayFactory().best());
        due("20: alone", 0, shelfOf("8").best());
        due("20: the first of several", 1, shelfOf("31313").best());
        due("20: the last", 4, shelfOf("87654").best());
        due("20: the first", 0, shelfOf("0123").best());
        MondayFactory x = new MondayFactory();
        Check.run(x, "h;m004;i0;m059;i0;m048;i0");
        due("20: least grey ahead of an alarm", 0, x.best());
        x.sell(0);
        due("20: an alarm ahead", 0, x.best());
        MondayFactory y = shelfOf("87");
        sellNewRejects(y, 3);
        due("20: prices now", "1 2", y.rejectOf(0, 4) + " " + y.rejectOf(1, 4));
        due("20: still the dearer one", 1, y.best());
        sellNewRejects(y, 1);
        due("20: both for 1 coin", 0, y.best());
        y.sell(0);
        y.sell(0);
        CHECK.dueThrow("20: all sold", NoSuchElementException.class, y::best);
    }

    private static void duePrices(String what, int want, MondayFactory x) {
        due(what + ", first way", want, x.allPrices(false));
        due(what + ", second way", want, x.allPrices(true));
    }

    private static void promise21() {
        duePrices("21: none", 0, new MondayFactory());
        duePrices("21: one", 4, shelfOf("8"));
        duePrices("21: each 1 less", 12 + 10 + 8, shelfOf("012"));
        duePrices("21: to 1 coin", 4 + 3 + 2 + 1 + 1 + 1, shelfOf("888888"));
        MondayFactory x = shelfOf("817");
        sellNewRejects(x, 2);
        String before = Check.state(x);
        duePrices("21: less the Fridays of the week", 2 + 8 + 1, x);
        due("21: nothing changes", before, Check.state(x));
        x.week();
        duePrices("21: in a new week", 4 + 10 + 3, x);
        MondayFactory y = new MondayFactory();
        Check.run(y, "h;m058;i0;m009;i0");
        duePrices("21: by an alarm", 11 + 11, y);
    }

    private static void promise22() {
        due("22: none", 0, new MondayFactory().bestOrder());
        due("22: one", 0, shelfOf("3").bestOrder());
        due("22: in the best order", 0, shelfOf("0123").bestOrder());
        due("22: where 1 coin does not fall", 1, shelfOf("88887").bestOrder());
        due("22: turned", bestLess("88880"), shelfOf("88880").bestOrder());
        due("22: eight", bestLess("87654321"), shelfOf("87654321").bestOrder());
        MondayFactory x = shelfOf("880");
        String before = Check.state(x);
        due("22: nothing is lost", 0, x.bestOrder());
        sellNewRejects(x, 2);
        due("22: by the Fridays of the week", 2 + 1 + 8, x.allPrices(true));
        due("22: more", 10 + 1 + 1 - 11, x.bestOrder());
        due("22: changed by sales alone", true, !before.equals(Check.state(x)));
        String behind = Check.state(x);
        x.bestOrder();
        due("22: nothing changes", behind, Check.state(x));
    }

    /** How many coins the best order of rejects of the test 1 brings more, in a week without Fridays. */
    private static int bestLess(String greys) {
        int[] prices = greys.chars().map(grey -> 3 + 9 - (grey - '0')).toArray();
        int[] sorted = prices.clone();
        java.util.Arrays.sort(sorted);
        int more = 0;
        for (int i = 0; i < prices.length; i++) {
            more += Math.max(1, sorted[prices.length - 1 - i] - i) - Math.max(1, prices[i] - i);
        }
        return more;
    }

    private static void promise23() {
        MondayFactory x = new MondayFactory();
        CHECK.dueThrow("23: none", IndexOutOfBoundsException.class, () -> x.wouldMend(0));
        Check.run(x, "h;m227;i2;m237;i2;m258;i2;m259;i2");
        CHECK.dueThrow("23: no such", IndexOutOfBoundsException.class, () -> x.wouldMend(4));
        for (int reject : Check.FAR) {
            CHECK.dueThrow("23: no such", IndexOutOfBoundsException.class, () -> x.wouldMend(reject));
        }
        due("23: a grey of 4", false, x.wouldMend(0));
        due("23: a grey of 5", true, x.wouldMend(1));
        due("23: an alarm of 7", true, x.wouldMend(2));
        due("23: an alarm of 8", false, x.wouldMend(3));
        Check.run(x, "t144;t254");
        due("23: other belts do not count", false, x.wouldMend(0));
        x.tell(0, 4, 6);
        due("23: a lower least grey", true, x.wouldMend(0));
        due("23: an earlier alarm", false, x.wouldMend(2));
        x.tell(0, 4, 9);
        due("23: a later alarm", true, x.wouldMend(3));
        Check.run(x, "m057;i0");
        due("23: the last grey", false, x.wouldMend(1));
        due("23: another last grey", true, x.wouldMend(2));
        capsAndNoRoom();
    }

    private static void capsAndNoRoom() {
        MondayFactory x = new MondayFactory();
        Check.run(x, "h;t094;m084;i0");
        due("23: the last grey is not 9", true, x.wouldMend(0));
        Check.run(x, "m094;i0");
        due("23: no more than 9, which is the last grey", false, x.wouldMend(0));
        MondayFactory y = new MondayFactory();
        Check.run(y, "h;t254;m234;i2;t054");
        due("23: the alarm is 4 still", true, y.wouldMend(0));
        Check.run(y, "b0;b0;b0;b0;b0");
        due("23: without room", true, y.wouldMend(0));
        Check.run(y, "o0");
        due("23: without inspectors", true, y.wouldMend(0));
        MondayFactory z = new MondayFactory();
        Check.run(z, "h;m004;i0;r0;i0;r0;m006;i0");
        due("23: no coins", 0, z.account(4));
        Check.run(z, "m235;i2");
        due("23: without coins", true, z.wouldMend(z.account(2) - 1));
        MondayFactory w = Check.yawner(9);
        Check.run(w, "m057;i0;m137;i1");
        due("23: left out by nobody", false, w.wouldMend(0));
    }
}
