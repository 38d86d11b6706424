import java.util.ArrayList;
import java.util.Comparator;
import java.util.List;
import java.util.NoSuchElementException;
import java.util.regex.Matcher;
import java.util.regex.Pattern;

/** The document once more, written apart from the class, with lists, copies and a regular expression. */
final class Model {
    private record Monday(int grey, int alarm, int repairs) { }

    private record Reject(Monday monday, int test) { }

    private static final Monday BLANK = new Monday(-1, -1, -1);
    private static final Pattern TEXT;

    static {
        String order = "(?:[mt][0-9][0-9][0-9]|[biosr][0-9]|[hw])";
        TEXT = Pattern.compile(order + "(?:;" + order + ")*");
    }

    private static final class State {
        List<List<Monday>> belts = List.of(new ArrayList<>(), new ArrayList<>(), new ArrayList<>());
        int[] least = {5, 5, 5};
        int[] latest = {7, 7, 7};
        int[] last = {-1, -1, -1};
        int[] inspected = new int[3];
        int[] stamped = new int[3];
        List<Integer> yawns = new ArrayList<>();
        List<Reject> shelf = new ArrayList<>();
        int coins = 5;
        int week;
        int made;
        int rejected;
        int scrap;
        int fridays;
        int weekFridays;
        int repairs;

        State copy() {
            State c = new State();
            for (int b = 0; b < 3; b++) {
                c.belts.get(b).addAll(belts.get(b));
            }
            c.least = least.clone();
            c.latest = latest.clone();
            c.last = last.clone();
            c.inspected = inspected.clone();
            c.stamped = stamped.clone();
            c.yawns.addAll(yawns);
            c.shelf.addAll(shelf);
            c.coins = coins;
            c.week = week;
            c.made = made;
            c.rejected = rejected;
            c.scrap = scrap;
            c.fridays = fridays;
            c.weekFridays = weekFridays;
            c.repairs = repairs;
            return c;
        }
    }

    private State s = new State();
    private State saved;
    private final List<State> undos = new ArrayList<>();
    private String input = "";
    private String line = "";
    private int errorPosition = -1;
    private int[] reason;

    private RuntimeException refuse(int number, int detail) {
        reason = new int[] {number, detail};
        return new UnsupportedOperationException();
    }

    private static void index(boolean isGood) {
        if (!isGood) {
            throw new IndexOutOfBoundsException();
        }
    }

    private static void argument(boolean isGood) {
        if (!isGood) {
            throw new IllegalArgumentException();
        }
    }

    private static void element(boolean isGood) {
        if (!isGood) {
            throw new NoSuchElementException();
        }
    }

    private static boolean within(int number, int first, int last) {
        return first <= number && number <= last;
    }

    /** Does one order, or throws and leaves the state as it is. */
    private int order(char letter, int a, int b, int c) {
        boolean isOfBelt = "mbti".indexOf(letter) >= 0;
        index(!isOfBelt || within(a, 0, 2));
        argument("mt".indexOf(letter) < 0 || within(b, 0, 9) && within(c, 4, 9));
        if ("mb".indexOf(letter) >= 0) {
            if (s.belts.get(a).size() == 5) {
                throw refuse(1, 5);
            }
            s.belts.get(a).add(letter == 'm' ? new Monday(b, c, 0) : BLANK);
            s.made += letter == 'm' ? 1 : 0;
            return s.belts.get(a).size();
        }
        if (letter == 't') {
            int before = s.least[a];
            if (before == b && s.latest[a] == c) {
                throw refuse(2, before);
            }
            s.least[a] = b;
            s.latest[a] = c;
            return before;
        }
        if (letter == 'i') {
            if (s.belts.get(a).isEmpty()) {
                throw refuse(3, a);
            }
            if (s.yawns.isEmpty()) {
                throw refuse(4, s.week);
            }
            return inspectOn(s, a);
        }
        if (letter == 'h') {
            if (s.yawns.size() == 4) {
                throw refuse(1, 4);
            }
            s.yawns.add(0);
            return s.yawns.size() - 1;
        }
        if (letter == 'o') {
            index(within(a, 0, s.yawns.size() - 1));
            return s.yawns.remove(a);
        }
        if (letter == 'w') {
            return weekOf(s);
        }
        index(within(a, 0, s.shelf.size() - 1));
        return letter == 's' ? sellOn(s, a) : repairOf(a);
    }

    private static int inspectorOf(State t) {
        int who = 0;
        for (int i = 0; i < t.yawns.size(); i++) {
            if (t.yawns.get(i) < t.yawns.get(who)) {
                who = i;
            }
        }
        return who;
    }

    private static int failOn(State t, int belt, Monday m, int yawned) {
        if (m == BLANK) {
            return 0;
        }
        if (m.grey < t.least[belt]) {
            return 1;
        }
        if (m.alarm > t.latest[belt] && yawned != 9) {
            return 2;
        }
        return m.grey == t.last[belt] && yawned < 6 ? 3 : 0;
    }

    private static int inspectOn(State t, int belt) {
        Monday m = t.belts.get(belt).remove(0);
        int who = inspectorOf(t);
        int yawned = t.yawns.get(who);
        if (m == BLANK) {
            t.yawns.set(who, yawned == 0 ? 0 : yawned - 1);
            return 0;
        }
        int test = failOn(t, belt, m, yawned);
        int more = m.grey > 7 ? 2 : 1;
        t.yawns.set(who, yawned + more > 9 ? 9 : yawned + more);
        t.last[belt] = m.grey;
        t.inspected[belt]++;
        if (test == 0) {
            t.stamped[belt]++;
            return 0;
        }
        t.rejected++;
        if (t.shelf.size() == 8) {
            t.scrap++;
        } else {
            t.shelf.add(new Reject(m, test));
        }
        return test;
    }

    private static int priceOn(State t, Reject r) {
        int price = 3 + (9 - r.monday.grey) + (r.test == 2 ? 4 : 0) - t.weekFridays;
        return price < 1 ? 1 : price;
    }

    private static int sellOn(State t, int reject) {
        int price = priceOn(t, t.shelf.remove(reject));
        t.coins += price;
        t.fridays++;
        t.weekFridays++;
        return price;
    }

    private static Monday repaired(Monday m) {
        return new Monday(m.grey >= 7 ? 9 : m.grey + 2, m.alarm == 4 ? 4 : m.alarm - 1, m.repairs + 1);
    }

    private int repairOf(int reject) {
        Monday m = s.shelf.get(reject).monday;
        int cost = 2 + m.repairs;
        if (s.belts.get(0).size() == 5) {
            throw refuse(1, 5);
        }
        if (cost > s.coins) {
            throw refuse(5, cost - s.coins);
        }
        s.coins -= cost;
        s.repairs++;
        s.shelf.remove(reject);
        s.belts.get(0).add(repaired(m));
        return cost;
    }

    private static int weekOf(State t) {
        int gone = 0;
        if (!t.belts.get(2).isEmpty()) {
            gone = t.belts.get(2).remove(0) == BLANK ? 0 : 1;
        }
        for (int b = 1; b >= 0; b--) {
            if (!t.belts.get(b).isEmpty()) {
                t.belts.get(b + 1).add(t.belts.get(b).remove(0));
            }
        }
        t.yawns.replaceAll(yawned -> yawned < 2 ? 0 : yawned - 2);
        t.scrap += gone;
        t.weekFridays = 0;
        t.week++;
        return gone;
    }

    private void remember(State before) {
        undos.add(before);
        if (undos.size() > 8) {
            undos.remove(0);
        }
    }

    int change(char letter, int a, int b, int c) {
        State before = s.copy();
        int answer = order(letter, a, b, c);
        remember(before);
        return answer;
    }

    int beltOf(int belt, int what) {
        index(within(belt, 0, 2));
        argument(within(what, 0, 6));
        List<Monday> carriers = s.belts.get(belt);
        int blanks = (int) carriers.stream().filter(m -> m == BLANK).count();
        return new int[] {carriers.size(), blanks, s.least[belt], s.latest[belt], s.last[belt], s.inspected[belt],
            s.stamped[belt]}[what];
    }

    private Monday at(int belt, int place) {
        index(within(belt, 0, 2));
        index(within(place, 0, s.belts.get(belt).size() - 1));
        return s.belts.get(belt).get(place);
    }

    int carrier(int belt, int place, int what) {
        Monday m = at(belt, place);
        argument(within(what, 0, 3));
        return new int[] {m == BLANK ? 1 : 0, m.grey, m.alarm, m.repairs}[what];
    }

    int yawns(int inspector) {
        index(within(inspector, 0, s.yawns.size() - 1));
        return s.yawns.get(inspector);
    }

    private boolean isPassed(int belt, Monday m, int test) {
        return switch (test) {
            case 1 -> m.grey >= s.least[belt];
            case 2 -> m.alarm <= s.latest[belt];
            default -> m.grey != s.last[belt];
        };
    }

    boolean passes(int belt, int place, int test) {
        Monday m = at(belt, place);
        argument(within(test, 1, 3));
        return m == BLANK || isPassed(belt, m, test);
    }

    int wouldFail(int belt, int place) {
        Monday m = at(belt, place);
        element(!s.yawns.isEmpty());
        return failOn(s, belt, m, s.yawns.get(inspectorOf(s)));
    }

    int wouldStamp(int belt) {
        index(within(belt, 0, 2));
        element(!s.yawns.isEmpty());
        State t = s.copy();
        int stamped = 0;
        while (!t.belts.get(belt).isEmpty()) {
            boolean isBlank = t.belts.get(belt).get(0) == BLANK;
            stamped += inspectOn(t, belt) == 0 && !isBlank ? 1 : 0;
        }
        return stamped;
    }

    int next() {
        element(!s.yawns.isEmpty());
        return inspectorOf(s);
    }

    int leastGrey(int belt) {
        index(within(belt, 0, 2));
        return s.belts.get(belt).stream().filter(m -> m != BLANK).mapToInt(m -> m.grey).min().orElse(9);
    }

    int rejectOf(int reject, int what) {
        index(within(reject, 0, s.shelf.size() - 1));
        argument(within(what, 0, 5));
        Reject r = s.shelf.get(reject);
        return new int[] {r.monday.grey, r.monday.alarm, r.monday.repairs, r.test, priceOn(s, r),
            2 + r.monday.repairs}[what];
    }

    int best() {
        element(!s.shelf.isEmpty());
        int most = s.shelf.stream().mapToInt(r -> priceOn(s, r)).max().getAsInt();
        int at = 0;
        while (priceOn(s, s.shelf.get(at)) != most) {
            at++;
        }
        return at;
    }

    int allPrices() {
        State t = s.copy();
        while (!t.shelf.isEmpty()) {
            sellOn(t, 0);
        }
        return t.coins - s.coins;
    }

    int bestOrder() {
        State t = s.copy();
        t.shelf.sort(Comparator.comparingInt((Reject r) -> priceOn(s, r)).reversed());
        while (!t.shelf.isEmpty()) {
            sellOn(t, 0);
        }
        return t.coins - s.coins - allPrices();
    }

    boolean wouldMend(int reject) {
        index(within(reject, 0, s.shelf.size() - 1));
        Monday m = repaired(s.shelf.get(reject).monday);
        return isPassed(0, m, 1) && isPassed(0, m, 2) && isPassed(0, m, 3);
    }

    int fresh(int place) {
        element(within(place, 0, s.yawns.size() - 1));
        List<Integer> all = new ArrayList<>();
        for (int i = 0; i < s.yawns.size(); i++) {
            all.add(i);
        }
        all.sort(Comparator.comparing(s.yawns::get));
        return all.get(place);
    }

    private int greys(int belt) {
        return s.belts.get(belt).stream().filter(m -> m != BLANK).mapToInt(m -> m.grey).sum();
    }

    int greyest(int place) {
        element(within(place, 0, 2));
        List<Integer> all = new ArrayList<>(List.of(0, 1, 2));
        all.sort(Comparator.comparing((Integer b) -> -greys(b)).thenComparing(b -> -s.belts.get(b).size()));
        return all.get(place);
    }

    int line(int belt) {
        index(within(belt, 0, 2));
        List<String> all = new ArrayList<>();
        s.belts.get(belt).forEach(m -> all.add(m == BLANK ? "--" : "" + m.grey + m.alarm));
        line = s.least[belt] + "/" + s.latest[belt] + ":" + String.join(" ", all);
        return line.length();
    }

    int shelfLine() {
        List<String> all = new ArrayList<>();
        s.shelf.forEach(r -> all.add("" + r.monday.grey + r.monday.alarm + "!" + r.test));
        line = String.join(" ", all);
        return line.length();
    }

    char character(int index) {
        index(within(index, 0, line.length() - 1));
        return line.charAt(index);
    }

    int append(char c) {
        if (input.length() == 60) {
            throw new IllegalStateException();
        }
        input += c;
        return input.length();
    }

    private static int errorIn(String text) {
        for (int end = 0; end <= text.length(); end++) {
            Matcher matcher = TEXT.matcher(text.substring(0, end));
            if (!matcher.matches() && !matcher.hitEnd()) {
                return end - 1;
            }
        }
        return TEXT.matcher(text).matches() ? -1 : text.length();
    }

    int run() {
        String text = input;
        input = "";
        errorPosition = errorIn(text);
        argument(errorPosition == -1);
        State before = s.copy();
        try {
            for (String order : text.split(";")) {
                String padded = order + "000";
                order(order.charAt(0), padded.charAt(1) - '0', padded.charAt(2) - '0', padded.charAt(3) - '0');
            }
        } catch (UnsupportedOperationException e) {
            s = before;
            throw new UnsupportedOperationException();
        } catch (RuntimeException e) {
            s = before;
            throw new IllegalArgumentException();
        }
        remember(before);
        return text.split(";").length;
    }

    int errorPosition() {
        return errorPosition;
    }

    int refusal(boolean isDetail) {
        element(reason != null);
        return reason[isDetail ? 1 : 0];
    }

    private int mondays() {
        return (int) s.belts.stream().flatMap(List::stream).filter(m -> m != BLANK).count();
    }

    private int carriers() {
        return s.belts.stream().mapToInt(List::size).sum();
    }

    private static int sum(int[] numbers) {
        return numbers[0] + numbers[1] + numbers[2];
    }

    int account(int what) {
        argument(within(what, 0, 14));
        return new int[] {carriers(), carriers() - mondays(), s.shelf.size(), s.yawns.size(), s.coins, s.week, s.made,
            sum(s.stamped), s.rejected, s.scrap, s.fridays, s.weekFridays, s.repairs, input.length(),
            undos.size()}[what];
    }

    double meanGrey() {
        if (mondays() == 0) {
            throw new ArithmeticException();
        }
        return (double) (greys(0) + greys(1) + greys(2)) / mondays();
    }

    float stampShare() {
        if (sum(s.inspected) == 0) {
            throw new ArithmeticException();
        }
        return (float) sum(s.stamped) / sum(s.inspected);
    }

    private static void state(boolean isGood) {
        if (!isGood) {
            throw new IllegalStateException();
        }
    }

    int undo() {
        state(!undos.isEmpty());
        s = undos.remove(undos.size() - 1);
        return undos.size();
    }

    int save() {
        saved = s.copy();
        return carriers();
    }

    int restore() {
        state(saved != null);
        s = saved.copy();
        undos.clear();
        return carriers();
    }
}
