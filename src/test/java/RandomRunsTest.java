import java.util.Random;

/** Many runs of 512 calls by a fixed seed, on the class and on the model, whose answers must be alike. */
public final class RandomRunsTest {
    private static final Check CHECK = new Check("RandomRunsTest");
    private static final int RUNS = 3000;
    private static final int CALLS = 512;
    private static final int KINDS = 38;
    private static final int[] EXTREMES = {-1, 10, 15, 100, Integer.MIN_VALUE, Integer.MAX_VALUE};

    private final Random random;
    private final int[] weights = new int[KINDS];
    private final StringBuilder told = new StringBuilder();
    private MondayFactory x = new MondayFactory();
    private Model y = new Model();
    private String toType = "";
    private boolean isRunDue = false;

    private RandomRunsTest(long seed) {
        random = new Random(seed);
        for (int kind = 0; kind < KINDS; kind++) {
            weights[kind] = random.nextInt(kind < 9 ? 8 : 3);
        }
        // Weeks, undo and restore would else keep most runs near the beginning.
        weights[8] = random.nextInt(3);
        weights[35] = random.nextInt(2);
        weights[37] = random.nextInt(2);
        weights[4] = random.nextInt(3);
        weights[28] = random.nextInt(2);
    }

    public static void main(String[] args) {
        for (int run = 0; run < RUNS; run++) {
            if (!new RandomRunsTest(run).isAlike()) {
                break;
            }
        }
        CHECK.end();
    }

    private boolean isAlike() {
        for (int call = 0; call < CALLS; call++) {
            if (!isCallAlike()) {
                return false;
            }
        }
        return true;
    }

    private boolean isCallAlike() {
        if (!toType.isEmpty()) {
            char sign = toType.charAt(0);
            toType = toType.substring(1);
            isRunDue = toType.isEmpty() && random.nextInt(4) != 0;
            return same("append " + (int) sign, () -> x.append(sign), () -> y.append(sign));
        }
        if (isRunDue) {
            isRunDue = false;
            return isSecondAlike(28);
        }
        int sum = 0;
        for (int weight : weights) {
            sum += weight;
        }
        int pick = sum == 0 ? 0 : random.nextInt(sum);
        int kind = 0;
        while (kind < KINDS - 1 && pick >= weights[kind]) {
            pick -= weights[kind];
            kind++;
        }
        return kind < 18 ? isFirstAlike(kind) : isSecondAlike(kind);
    }

    private int number(int upTo) {
        return random.nextInt(40) == 0 ? EXTREMES[random.nextInt(EXTREMES.length)] : random.nextInt(upTo + 1);
    }

    private int belt() {
        return random.nextInt(30) == 0 ? 3 : number(2);
    }

    private int alarm() {
        return random.nextInt(30) == 0 ? 3 : 4 + random.nextInt(6);
    }

    private int grey() {
        return random.nextBoolean() ? number(9) : random.nextBoolean() ? 9 : 5;
    }

    private boolean isFirstAlike(int kind) {
        int a = belt();
        int b = grey();
        int c = alarm();
        int n = number(8);
        int m = number(4);
        boolean is = random.nextBoolean();
        switch (kind) {
            case 0: return same("make " + a + " " + b + " " + c, () -> x.make(a, b, c), () -> y.change('m', a, b, c));
            case 1: return same("blank " + a, () -> x.blank(a), () -> y.change('b', a, 0, 4));
            case 2: return same("tell " + a + " " + b + " " + c, () -> x.tell(a, b, c), () -> y.change('t', a, b, c));
            case 3: return same("inspect " + a, () -> x.inspect(a), () -> y.change('i', a, 0, 4));
            case 4: return same("hire", () -> x.hire(), () -> y.change('h', 0, 0, 0));
            case 5: return m > 3 ? isFirstAlike(3)
                : same("leave " + m, () -> x.leave(m), () -> y.change('o', m, 0, 0));
            case 6: return same("sell " + n, () -> x.sell(n), () -> y.change('s', n, 0, 0));
            case 7: return same("repair " + n, () -> x.repair(n), () -> y.change('r', n, 0, 0));
            case 8: return same("week", () -> x.week(), () -> y.change('w', 0, 0, 0));
            case 9: return same("beltOf " + a + " " + n, () -> x.beltOf(a, n), () -> y.beltOf(a, n));
            case 10: return same("carrier " + a + " " + n + " " + m, () -> x.carrier(a, n, m),
                () -> y.carrier(a, n, m));
            case 11: return same("yawns " + m, () -> x.yawns(m), () -> y.yawns(m));
            case 12: return same("passes " + a + " " + m + " " + n, () -> x.passes(a, m, n), () -> y.passes(a, m, n));
            case 13: return same("wouldFail " + a + " " + m, () -> x.wouldFail(a, m, is), () -> y.wouldFail(a, m));
            case 14: return same("wouldStamp " + a, () -> x.wouldStamp(a), () -> y.wouldStamp(a));
            case 15: return same("next", () -> x.next(), () -> y.next());
            case 16: return same("leastGrey " + a, () -> x.leastGrey(a), () -> y.leastGrey(a));
            default: return same("rejectOf " + n + " " + m, () -> x.rejectOf(n, m), () -> y.rejectOf(n, m));
        }
    }

    private boolean isSecondAlike(int kind) {
        int n = number(8);
        int m = number(4);
        boolean is = random.nextBoolean();
        switch (kind) {
            case 18: return same("best", () -> x.best(), () -> y.best());
            case 19: return same("allPrices " + is, () -> x.allPrices(is), () -> y.allPrices());
            case 20: return same("bestOrder", () -> x.bestOrder(), () -> y.bestOrder());
            case 21: return same("wouldMend " + n, () -> x.wouldMend(n), () -> y.wouldMend(n));
            case 22: return same("fresh " + m, () -> x.fresh(m), () -> y.fresh(m));
            case 23: return same("greyest " + m, () -> x.greyest(m), () -> y.greyest(m));
            case 24: return same("line " + m, () -> x.line(m), () -> y.line(m));
            case 25: return same("shelfLine", () -> x.shelfLine(), () -> y.shelfLine());
            case 26: return same("character " + n, () -> x.character(n), () -> y.character(n));
            case 27: toType = text(); return true;
            case 28: return same("run", () -> x.run(), () -> y.run());
            case 29: return same("errorPosition", () -> x.errorPosition(), () -> y.errorPosition());
            case 30: return same("refusal " + is, () -> x.refusal(is), () -> y.refusal(is));
            case 31: return isAccountAlike(is ? n : n + 7);
            case 32: return same("isWell", () -> x.isWell(), () -> true);
            case 33: return same("meanGrey", () -> x.meanGrey(), () -> y.meanGrey());
            case 34: return same("stampShare", () -> x.stampShare(), () -> y.stampShare());
            case 35: return same("undo", () -> x.undo(), () -> y.undo());
            case 36: return same("save", () -> x.save(), () -> y.save());
            default: return same("restore", () -> x.restore(), () -> y.restore());
        }
    }

    private boolean isAccountAlike(int what) {
        return same("account " + what, () -> x.account(what), () -> y.account(what));
    }

    private String text() {
        StringBuilder text = new StringBuilder();
        int orders = 1 + random.nextInt(6);
        for (int i = 0; i < orders; i++) {
            text.append(i == 0 ? "" : ";").append(order());
        }
        if (random.nextInt(4) == 0) {
            text.setCharAt(random.nextInt(text.length()), "mbtihosrw;059:x".charAt(random.nextInt(15)));
        }
        return text.toString();
    }

    private String order() {
        char letter = "mmmbtiiiihosrw".charAt(random.nextInt(14));
        int belt = random.nextInt(20) == 0 ? random.nextInt(10) : random.nextInt(3);
        int alarm = random.nextInt(20) == 0 ? random.nextInt(10) : 4 + random.nextInt(6);
        switch (letter) {
            case 'm':
            case 't': return "" + letter + belt + random.nextInt(10) + alarm;
            case 'h':
            case 'w': return "" + letter;
            default: return "" + letter + belt;
        }
    }

    private boolean same(String call, Check.Call got, Check.Call want) {
        told.append(call).append('\n');
        String due = Check.outcome(want);
        String answered = Check.outcome(got);
        CHECK.due(call, due, answered);
        if (!due.equals(answered)) {
            System.out.println("The calls before were:\n" + told);
        }
        return due.equals(answered);
    }
}
