import java.util.NoSuchElementException;

/** A factory of Mondays with quality control. README.md tells how it is laid out. */
public final class MondayFactory {
    private static final int BELTS = 3;
    private static final int MOST_CARRIERS = 5;
    private static final int MOST_INSPECTORS = 4;
    private static final int MOST_REJECTS = 8;
    private static final int MOST_CHANGES = 8;
    private static final int MOST_SIGNS = 60;
    private static final int MOST_GREY = 9;
    private static final int FIRST_ALARM = 4;
    private static final int LAST_ALARM = 9;
    private static final int MOST_YAWNS = 9;
    private static final int TESTS = 3;
    private static final int ALARM_TEST = 2;

    /** A number that is not there: a last grey at first, or each number of a blank. */
    private static final int NONE = -1;

    private static final int GREY = 0;
    private static final int ALARM = 1;
    private static final int REPAIRS = 2;
    private static final int TEST = 3;
    private static final int WIDTH = 4;

    private static final char MAKE = 'm';
    private static final char BLANK = 'b';
    private static final char TELL = 't';
    private static final char INSPECT = 'i';
    private static final char HIRE = 'h';
    private static final char LEAVE = 'o';
    private static final char SELL = 's';
    private static final char REPAIR = 'r';
    private static final char WEEK = 'w';

    /** Verdicts on an order: fine, one of the five reasons of the document, or a wrong argument. */
    private static final int FINE = 0;
    private static final int FULL = 1;
    private static final int SO_ALREADY = 2;
    private static final int EMPTY = 3;
    private static final int UNMANNED = 4;
    private static final int TOO_DEAR = 5;
    private static final int NO_SUCH = 6;
    private static final int OUT_OF_RANGE = 7;

    private final Plant plant = new Plant();
    private final Plant thought = new Plant();
    private final Plant before = new Plant();
    private final Plant snapshot = new Plant();
    private final History history = new History();
    private final Input input = new Input();
    private final Line written = new Line();
    private boolean hasSnapshot = false;
    private int latestError = NONE;
    private int latestReason = FINE;
    private int latestDetail = 0;

    public MondayFactory() {
    }

    // Belts and inspectors

    public int make(int belt, int grey, int alarm)
            throws IndexOutOfBoundsException, IllegalArgumentException, UnsupportedOperationException {
        return change(MAKE, belt, grey, alarm);
    }

    public int blank(int belt) throws IndexOutOfBoundsException, UnsupportedOperationException {
        return change(BLANK, belt, 0, 0);
    }

    public int tell(int belt, int grey, int alarm)
            throws IndexOutOfBoundsException, IllegalArgumentException, UnsupportedOperationException {
        return change(TELL, belt, grey, alarm);
    }

    public int inspect(int belt) throws IndexOutOfBoundsException, UnsupportedOperationException {
        return change(INSPECT, belt, 0, 0);
    }

    public int hire() throws UnsupportedOperationException {
        return change(HIRE, 0, 0, 0);
    }

    public int leave(int inspector) throws IndexOutOfBoundsException {
        return change(LEAVE, inspector, 0, 0);
    }

    public int sell(int reject) throws IndexOutOfBoundsException {
        return change(SELL, reject, 0, 0);
    }

    public int repair(int reject) throws IndexOutOfBoundsException, UnsupportedOperationException {
        return change(REPAIR, reject, 0, 0);
    }

    public int week() {
        return change(WEEK, 0, 0, 0);
    }

    public int beltOf(int belt, int what) throws IndexOutOfBoundsException, IllegalArgumentException {
        demandBelt(belt);
        demandWhat(what, 6);
        Belt asked = plant.belts[belt];
        switch (what) {
            case 0: return asked.row.count;
            case 1: return asked.blanks();
            case 2: return asked.least;
            case 3: return asked.latest;
            case 4: return asked.last;
            case 5: return asked.inspected;
            default: return asked.stamped;
        }
    }

    public int carrier(int belt, int place, int what) throws IndexOutOfBoundsException, IllegalArgumentException {
        demandPlace(belt, place);
        demandWhat(what, 3);
        Row row = plant.belts[belt].row;
        switch (what) {
            case 0: return row.isBlank(place) ? 1 : 0;
            case 1: return row.number(place, GREY);
            case 2: return row.number(place, ALARM);
            default: return row.number(place, REPAIRS);
        }
    }

    public int yawns(int inspector) throws IndexOutOfBoundsException {
        if (!plant.crew.has(inspector)) {
            throw new IndexOutOfBoundsException("there is no such inspector");
        }
        return plant.crew.yawned(inspector);
    }

    // Tests

    public boolean passes(int belt, int place, int test) throws IndexOutOfBoundsException, IllegalArgumentException {
        demandPlace(belt, place);
        if (test < 1 || test > TESTS) {
            throw new IllegalArgumentException("there is no such test");
        }
        Belt asked = plant.belts[belt];
        return asked.row.isBlank(place) || asked.isPassedBy(asked.row.grey(place), asked.row.alarm(place), test);
    }

    public int wouldFail(int belt, int place, boolean isAgain)
            throws IndexOutOfBoundsException, NoSuchElementException {
        demandPlace(belt, place);
        demandInspector();
        return isAgain ? failBackwards(belt, place) : failInThought(belt, place);
    }

    public int wouldStamp(int belt) throws IndexOutOfBoundsException, NoSuchElementException {
        demandBelt(belt);
        demandInspector();
        thought.copyFrom(plant);
        int carriers = plant.belts[belt].row.count;
        for (int i = 0; i < carriers; i++) {
            thought.inspectFront(belt);
        }
        return thought.belts[belt].stamped - plant.belts[belt].stamped;
    }

    public int next() throws NoSuchElementException {
        demandInspector();
        return plant.crew.freshAt(0);
    }

    public int leastGrey(int belt) throws IndexOutOfBoundsException {
        demandBelt(belt);
        Row row = plant.belts[belt].row;
        int least = MOST_GREY;
        for (int place = 0; place < row.count; place++) {
            if (!row.isBlank(place)) {
                least = Math.min(least, row.grey(place));
            }
        }
        return least;
    }

    // Fridays and repairs

    public int rejectOf(int reject, int what) throws IndexOutOfBoundsException, IllegalArgumentException {
        demandReject(reject);
        demandWhat(what, 5);
        switch (what) {
            case 0: return plant.shelf.grey(reject);
            case 1: return plant.shelf.alarm(reject);
            case 2: return plant.shelf.number(reject, REPAIRS);
            case 3: return plant.shelf.number(reject, TEST);
            case 4: return plant.priceOf(reject);
            default: return plant.repairCost(reject);
        }
    }

    public int best() throws NoSuchElementException {
        if (plant.shelf.count == 0) {
            throw new NoSuchElementException("there is no reject");
        }
        return plant.dearest();
    }

    public int allPrices(boolean isAgain) {
        return isAgain ? pricesByPlaces() : pricesInThought(false);
    }

    public int bestOrder() {
        return pricesInThought(true) - pricesInThought(false);
    }

    public boolean wouldMend(int reject) throws IndexOutOfBoundsException {
        demandReject(reject);
        int grey = plant.repairedGrey(reject);
        int alarm = plant.repairedAlarm(reject);
        for (int test = 1; test <= TESTS; test++) {
            if (!plant.belts[0].isPassedBy(grey, alarm, test)) {
                return false;
            }
        }
        return true;
    }

    // Orders, lines, texts, accounts, undo and snapshot

    public int fresh(int place) throws NoSuchElementException {
        if (!plant.crew.has(place)) {
            throw new NoSuchElementException("there is no such place");
        }
        return plant.crew.freshAt(place);
    }

    public int greyest(int place) throws NoSuchElementException {
        if (!isBelt(place)) {
            throw new NoSuchElementException("there is no such place");
        }
        return plant.greyestAt(place);
    }

    public int line(int belt) throws IndexOutOfBoundsException {
        demandBelt(belt);
        written.writeBelt(plant.belts[belt]);
        return written.length;
    }

    public int shelfLine() {
        written.writeShelf(plant.shelf);
        return written.length;
    }

    public char character(int index) throws IndexOutOfBoundsException {
        if (index < 0 || index >= written.length) {
            throw new IndexOutOfBoundsException("there is no such index");
        }
        return written.signs[index];
    }

    public int append(char c) throws IllegalStateException {
        if (input.length >= MOST_SIGNS) {
            throw new IllegalStateException("the input is full");
        }
        input.add(c);
        return input.length;
    }

    public int run() throws IllegalArgumentException, UnsupportedOperationException {
        // The input is empty whatever comes of it; its signs can still be read up to this length.
        int length = input.length;
        input.length = 0;
        latestError = input.findError(length);
        if (latestError != NONE) {
            throw new IllegalArgumentException("the text has an error");
        }
        before.copyFrom(plant);
        int verdict = carryOutText(length);
        if (verdict != FINE) {
            plant.copyFrom(before);
        }
        if (verdict == NO_SUCH || verdict == OUT_OF_RANGE) {
            throw new IllegalArgumentException("an order has a wrong number");
        }
        if (verdict != FINE) {
            throw new UnsupportedOperationException("an order is refused");
        }
        history.remember(before);
        return input.countOrders(length);
    }

    public int errorPosition() {
        return latestError;
    }

    public int refusal(boolean isDetail) throws NoSuchElementException {
        if (latestReason == FINE) {
            throw new NoSuchElementException("nothing was refused");
        }
        return isDetail ? latestDetail : latestReason;
    }

    public int account(int what) throws IllegalArgumentException {
        demandWhat(what, 14);
        switch (what) {
            case 13: return input.length;
            case 14: return history.count;
            default: return plant.accountOf(what);
        }
    }

    public boolean isWell() {
        int found = plant.mondays() + plant.shelf.count + plant.stamped() + plant.scrap + plant.fridays;
        return areFailsAlike() && pricesInThought(false) == pricesByPlaces() && plant.made == found;
    }

    public double meanGrey() throws ArithmeticException {
        int mondays = plant.mondays();
        if (mondays == 0) {
            throw new ArithmeticException("there is no Monday on the belts");
        }
        return (double) plant.greys() / (double) mondays;
    }

    public float stampShare() throws ArithmeticException {
        int inspected = plant.inspected();
        if (inspected == 0) {
            throw new ArithmeticException("no Monday was inspected");
        }
        return (float) plant.stamped() / (float) inspected;
    }

    public int undo() throws IllegalStateException {
        if (history.count == 0) {
            throw new IllegalStateException("no change can be undone");
        }
        history.takeBack(plant);
        return history.count;
    }

    public int save() {
        snapshot.copyFrom(plant);
        hasSnapshot = true;
        return plant.carriers();
    }

    public int restore() throws IllegalStateException {
        if (!hasSnapshot) {
            throw new IllegalStateException("there is no snapshot");
        }
        plant.copyFrom(snapshot);
        history.count = 0;
        return plant.carriers();
    }

    // What the calls share

    /** Carries out one order as a change of its own, or throws what the verdict on it asks for. */
    private int change(char order, int number, int grey, int alarm) {
        int verdict = plant.verdictOn(order, number, grey, alarm);
        if (verdict == NO_SUCH) {
            throw new IndexOutOfBoundsException("there is no such belt, inspector or reject");
        }
        if (verdict == OUT_OF_RANGE) {
            throw new IllegalArgumentException("a number is out of range");
        }
        if (verdict != FINE) {
            keepReason(verdict, order, number);
            throw new UnsupportedOperationException("it is refused");
        }
        history.remember(plant);
        return plant.carryOut(order, number, grey, alarm);
    }

    /** Returns the verdict on the first order that cannot be carried out, or FINE behind the last one. */
    private int carryOutText(int length) {
        for (int at = 0; at < length; at++) {
            char order = input.signAt(at);
            if (Input.numbersOf(order) != Input.WRONG) {
                int number = input.numberAt(at + 1);
                int grey = input.numberAt(at + 2);
                int alarm = input.numberAt(at + 3);
                int verdict = plant.verdictOn(order, number, grey, alarm);
                if (verdict != FINE) {
                    keepReason(verdict, order, number);
                    return verdict;
                }
                plant.carryOut(order, number, grey, alarm);
            }
        }
        return FINE;
    }

    /** Must be called on the plant as it is at the refusal: details tell of it. */
    private void keepReason(int verdict, char order, int number) {
        if (verdict >= FULL && verdict <= TOO_DEAR) {
            latestReason = verdict;
            latestDetail = plant.detailOf(verdict, order, number);
        }
    }

    private int failInThought(int belt, int place) {
        thought.copyFrom(plant);
        thought.belts[belt].row.cut(0, place);
        return thought.inspectFront(belt);
    }

    private int failBackwards(int belt, int place) {
        Belt asked = plant.belts[belt];
        if (asked.row.isBlank(place)) {
            return 0;
        }
        int grey = asked.row.grey(place);
        int alarm = asked.row.alarm(place);
        int yawned = plant.crew.yawned(plant.crew.freshAt(0));
        int failed = 0;
        for (int test = TESTS; test >= 1; test--) {
            if (!asked.isPassedBy(grey, alarm, test) && !Crew.isLeftOut(test, yawned)) {
                failed = test;
            }
        }
        return failed;
    }

    private boolean areFailsAlike() {
        if (plant.crew.count == 0) {
            return true;
        }
        for (int belt = 0; belt < BELTS; belt++) {
            for (int place = 0; place < plant.belts[belt].row.count; place++) {
                if (failInThought(belt, place) != failBackwards(belt, place)) {
                    return false;
                }
            }
        }
        return true;
    }

    private int pricesInThought(boolean isDearestFirst) {
        thought.copyFrom(plant);
        int coins = 0;
        for (int i = 0; i < plant.shelf.count; i++) {
            // All prices fall alike, so the dearest at each sale keeps the order of the prices now.
            coins += thought.sellReject(isDearestFirst ? thought.dearest() : 0);
        }
        return coins;
    }

    private int pricesByPlaces() {
        int coins = 0;
        for (int reject = 0; reject < plant.shelf.count; reject++) {
            coins += Math.max(1, plant.priceInNewWeek(reject) - plant.fridaysOfWeek - reject);
        }
        return coins;
    }

    private void demandBelt(int belt) {
        if (!isBelt(belt)) {
            throw new IndexOutOfBoundsException("there is no such belt");
        }
    }

    private void demandPlace(int belt, int place) {
        if (!isBelt(belt) || !plant.belts[belt].row.has(place)) {
            throw new IndexOutOfBoundsException("there is no such belt or place");
        }
    }

    private void demandReject(int reject) {
        if (!plant.shelf.has(reject)) {
            throw new IndexOutOfBoundsException("there is no such reject");
        }
    }

    private void demandInspector() {
        if (plant.crew.count == 0) {
            throw new NoSuchElementException("there is no inspector");
        }
    }

    private static void demandWhat(int what, int last) {
        if (what < 0 || what > last) {
            throw new IllegalArgumentException("there is no such number");
        }
    }

    private static boolean isBelt(int belt) {
        return belt >= 0 && belt < BELTS;
    }

    /** The carriers of a belt or the rejects of the shelf, in their order; a blank's numbers are all NONE. */
    private static final class Row {
        // A belt needs less room than the shelf; one size serves both.
        private final int[] numbers = new int[MOST_REJECTS * WIDTH];
        int count = 0;

        void copyFrom(Row other) {
            count = other.count;
            System.arraycopy(other.numbers, 0, numbers, 0, count * WIDTH);
        }

        boolean has(int place) {
            return place >= 0 && place < count;
        }

        int number(int place, int what) {
            boolean isThere = place >= 0 && place < count && what >= 0 && what < WIDTH;
            return isThere ? numbers[place * WIDTH + what] : NONE;
        }

        int grey(int place) {
            return number(place, GREY);
        }

        int alarm(int place) {
            return number(place, ALARM);
        }

        boolean isBlank(int place) {
            return number(place, GREY) == NONE;
        }

        void add(int grey, int alarm, int repairs, int test) {
            if (count < MOST_REJECTS) {
                int at = count * WIDTH;
                numbers[at + GREY] = grey;
                numbers[at + ALARM] = alarm;
                numbers[at + REPAIRS] = repairs;
                numbers[at + TEST] = test;
                count++;
            }
        }

        void cut(int place, int howMany) {
            if (place >= 0 && howMany >= 0 && howMany <= count - place) {
                int behind = place + howMany;
                System.arraycopy(numbers, behind * WIDTH, numbers, place * WIDTH, (count - behind) * WIDTH);
                count -= howMany;
            }
        }

        void moveFrontTo(Row other) {
            if (count > 0) {
                other.add(number(0, GREY), number(0, ALARM), number(0, REPAIRS), number(0, TEST));
                cut(0, 1);
            }
        }
    }

    private static final class Belt {
        final Row row = new Row();
        int least = 5;
        int latest = 7;
        int last = NONE;
        int inspected = 0;
        int stamped = 0;

        void copyFrom(Belt other) {
            row.copyFrom(other.row);
            least = other.least;
            latest = other.latest;
            last = other.last;
            inspected = other.inspected;
            stamped = other.stamped;
        }

        boolean isPassedBy(int grey, int alarm, int test) {
            switch (test) {
                case 1: return grey >= least;
                case ALARM_TEST: return alarm <= latest;
                default: return grey != last;
            }
        }

        int blanks() {
            int blanks = 0;
            for (int place = 0; place < row.count; place++) {
                blanks += row.isBlank(place) ? 1 : 0;
            }
            return blanks;
        }

        int greys() {
            int greys = 0;
            for (int place = 0; place < row.count; place++) {
                greys += row.isBlank(place) ? 0 : row.grey(place);
            }
            return greys;
        }
    }

    private static final class Crew {
        private final int[] yawns = new int[MOST_INSPECTORS];
        int count = 0;

        void copyFrom(Crew other) {
            count = other.count;
            System.arraycopy(other.yawns, 0, yawns, 0, MOST_INSPECTORS);
        }

        boolean has(int inspector) {
            return inspector >= 0 && inspector < count;
        }

        int yawned(int inspector) {
            return has(inspector) ? yawns[inspector] : NONE;
        }

        void addYawns(int inspector, int more) {
            if (has(inspector)) {
                yawns[inspector] = Math.max(0, Math.min(MOST_YAWNS, yawns[inspector] + more));
            }
        }

        void addYawnsToAll(int more) {
            for (int inspector = 0; inspector < count; inspector++) {
                addYawns(inspector, more);
            }
        }

        int join() {
            if (count < MOST_INSPECTORS) {
                yawns[count] = 0;
                count++;
            }
            return count - 1;
        }

        int part(int inspector) {
            int yawned = yawned(inspector);
            if (has(inspector)) {
                System.arraycopy(yawns, inspector + 1, yawns, inspector, count - inspector - 1);
                count--;
            }
            return yawned;
        }

        int freshAt(int place) {
            for (int inspector = 0; inspector < count; inspector++) {
                if (howManyAhead(inspector) == place) {
                    return inspector;
                }
            }
            return NONE;
        }

        private int howManyAhead(int inspector) {
            int ahead = 0;
            for (int other = 0; other < count; other++) {
                boolean isFresher = yawns[other] < yawns[inspector];
                boolean isLower = yawns[other] == yawns[inspector] && other < inspector;
                ahead += isFresher || isLower ? 1 : 0;
            }
            return ahead;
        }

        static boolean isLeftOut(int test, int yawned) {
            switch (test) {
                case 1: return false;
                case ALARM_TEST: return yawned >= 9;
                default: return yawned >= 6;
            }
        }
    }

    /** All that changes can change: one for now, others for thought, undo and snapshot. */
    private static final class Plant {
        final Belt[] belts = {new Belt(), new Belt(), new Belt()};
        final Row shelf = new Row();
        final Crew crew = new Crew();
        int coins = 5;
        int week = 0;
        int made = 0;
        int rejected = 0;
        int scrap = 0;
        int fridays = 0;
        int fridaysOfWeek = 0;
        int repairs = 0;

        void copyFrom(Plant other) {
            for (int belt = 0; belt < BELTS; belt++) {
                belts[belt].copyFrom(other.belts[belt]);
            }
            shelf.copyFrom(other.shelf);
            crew.copyFrom(other.crew);
            coins = other.coins;
            week = other.week;
            made = other.made;
            rejected = other.rejected;
            scrap = other.scrap;
            fridays = other.fridays;
            fridaysOfWeek = other.fridaysOfWeek;
            repairs = other.repairs;
        }

        int verdictOn(char order, int number, int grey, int alarm) {
            switch (order) {
                case HIRE: return crew.count < MOST_INSPECTORS ? FINE : FULL;
                case LEAVE: return crew.has(number) ? FINE : NO_SUCH;
                case SELL: return shelf.has(number) ? FINE : NO_SUCH;
                case REPAIR: return shelf.has(number) ? verdictOnRepair(number) : NO_SUCH;
                case WEEK: return FINE;
                default: return isBelt(number) ? verdictOnBelt(order, number, grey, alarm) : NO_SUCH;
            }
        }

        private int verdictOnRepair(int reject) {
            if (isFull(0)) {
                return FULL;
            }
            return coins < repairCost(reject) ? TOO_DEAR : FINE;
        }

        private int verdictOnBelt(char order, int belt, int grey, int alarm) {
            boolean isInRange = grey >= 0 && grey <= MOST_GREY && alarm >= FIRST_ALARM && alarm <= LAST_ALARM;
            switch (order) {
                case MAKE:
                    if (!isInRange) {
                        return OUT_OF_RANGE;
                    }
                    return isFull(belt) ? FULL : FINE;
                case TELL:
                    if (!isInRange) {
                        return OUT_OF_RANGE;
                    }
                    return grey == belts[belt].least && alarm == belts[belt].latest ? SO_ALREADY : FINE;
                case INSPECT:
                    if (belts[belt].row.count == 0) {
                        return EMPTY;
                    }
                    return crew.count == 0 ? UNMANNED : FINE;
                default:
                    return isFull(belt) ? FULL : FINE;
            }
        }

        private boolean isFull(int belt) {
            return belts[belt].row.count >= MOST_CARRIERS;
        }

        int detailOf(int reason, char order, int number) {
            switch (reason) {
                case FULL: return order == HIRE ? MOST_INSPECTORS : MOST_CARRIERS;
                case SO_ALREADY: return belts[number].least;
                case EMPTY: return number;
                case UNMANNED: return week;
                default: return repairCost(number) - coins;
            }
        }

        /** Carries out an order on which the verdict is FINE. */
        int carryOut(char order, int number, int grey, int alarm) {
            switch (order) {
                case MAKE: return makeMonday(number, grey, alarm);
                case BLANK: return addCarrier(number, NONE, NONE, NONE);
                case TELL: return tellBelt(belts[number], grey, alarm);
                case INSPECT: return inspectFront(number);
                case HIRE: return crew.join();
                case LEAVE: return crew.part(number);
                case SELL: return sellReject(number);
                case REPAIR: return repairReject(number);
                default: return endWeek();
            }
        }

        private int makeMonday(int belt, int grey, int alarm) {
            made++;
            return addCarrier(belt, grey, alarm, 0);
        }

        private int addCarrier(int belt, int grey, int alarm, int repairs) {
            Row row = belts[belt].row;
            row.add(grey, alarm, repairs, 0);
            return row.count;
        }

        private static int tellBelt(Belt belt, int grey, int alarm) {
            int least = belt.least;
            belt.least = grey;
            belt.latest = alarm;
            return least;
        }

        int inspectFront(int number) {
            Belt belt = belts[number];
            int inspector = crew.freshAt(0);
            int test = 0;
            if (belt.row.isBlank(0)) {
                crew.addYawns(inspector, -1);
            } else {
                test = inspectMonday(belt, inspector);
            }
            belt.row.cut(0, 1);
            return test;
        }

        private int inspectMonday(Belt belt, int inspector) {
            int grey = belt.row.grey(0);
            int test = firstFailed(belt, grey, belt.row.alarm(0), crew.yawned(inspector));
            crew.addYawns(inspector, grey >= 8 ? 2 : 1);
            belt.last = grey;
            belt.inspected++;
            if (test == 0) {
                belt.stamped++;
            } else {
                reject(belt.row, test);
            }
            return test;
        }

        private static int firstFailed(Belt belt, int grey, int alarm, int yawned) {
            for (int test = 1; test <= TESTS; test++) {
                if (!belt.isPassedBy(grey, alarm, test) && !Crew.isLeftOut(test, yawned)) {
                    return test;
                }
            }
            return 0;
        }

        private void reject(Row row, int test) {
            rejected++;
            if (shelf.count < MOST_REJECTS) {
                shelf.add(row.number(0, GREY), row.number(0, ALARM), row.number(0, REPAIRS), test);
            } else {
                scrap++;
            }
        }

        int sellReject(int reject) {
            int price = priceOf(reject);
            shelf.cut(reject, 1);
            coins += price;
            fridays++;
            fridaysOfWeek++;
            return price;
        }

        private int repairReject(int reject) {
            int cost = repairCost(reject);
            addCarrier(0, repairedGrey(reject), repairedAlarm(reject), shelf.number(reject, REPAIRS) + 1);
            shelf.cut(reject, 1);
            coins -= cost;
            repairs++;
            return cost;
        }

        private int endWeek() {
            Row last = belts[2].row;
            int scrapped = last.count > 0 && !last.isBlank(0) ? 1 : 0;
            last.cut(0, 1);
            belts[1].row.moveFrontTo(last);
            belts[0].row.moveFrontTo(belts[1].row);
            crew.addYawnsToAll(-2);
            scrap += scrapped;
            fridaysOfWeek = 0;
            week++;
            return scrapped;
        }

        int priceInNewWeek(int reject) {
            int forAlarm = shelf.number(reject, TEST) == ALARM_TEST ? 4 : 0;
            return 3 + MOST_GREY - shelf.number(reject, GREY) + forAlarm;
        }

        int priceOf(int reject) {
            return Math.max(1, priceInNewWeek(reject) - fridaysOfWeek);
        }

        int repairCost(int reject) {
            return 2 + shelf.number(reject, REPAIRS);
        }

        int repairedGrey(int reject) {
            return Math.min(MOST_GREY, shelf.grey(reject) + 2);
        }

        int repairedAlarm(int reject) {
            return Math.max(FIRST_ALARM, shelf.alarm(reject) - 1);
        }

        int dearest() {
            int dearest = 0;
            for (int reject = 1; reject < shelf.count; reject++) {
                if (priceOf(reject) > priceOf(dearest)) {
                    dearest = reject;
                }
            }
            return dearest;
        }

        int greyestAt(int place) {
            for (int belt = 0; belt < BELTS; belt++) {
                int ahead = 0;
                for (int other = 0; other < BELTS; other++) {
                    ahead += comesAhead(other, belt) ? 1 : 0;
                }
                if (ahead == place) {
                    return belt;
                }
            }
            return NONE;
        }

        private boolean comesAhead(int belt, int other) {
            int greys = belts[belt].greys() - belts[other].greys();
            int carriers = belts[belt].row.count - belts[other].row.count;
            if (greys != 0) {
                return greys > 0;
            }
            return carriers == 0 ? belt < other : carriers > 0;
        }

        int accountOf(int what) {
            switch (what) {
                case 0: return carriers();
                case 1: return carriers() - mondays();
                case 2: return shelf.count;
                case 3: return crew.count;
                case 4: return coins;
                case 5: return week;
                case 6: return made;
                case 7: return stamped();
                case 8: return rejected;
                case 9: return scrap;
                case 10: return fridays;
                case 11: return fridaysOfWeek;
                default: return repairs;
            }
        }

        int carriers() {
            int carriers = 0;
            for (Belt belt : belts) {
                carriers += belt.row.count;
            }
            return carriers;
        }

        int mondays() {
            int mondays = 0;
            for (Belt belt : belts) {
                mondays += belt.row.count - belt.blanks();
            }
            return mondays;
        }

        int greys() {
            int greys = 0;
            for (Belt belt : belts) {
                greys += belt.greys();
            }
            return greys;
        }

        int inspected() {
            int inspected = 0;
            for (Belt belt : belts) {
                inspected += belt.inspected;
            }
            return inspected;
        }

        int stamped() {
            int stamped = 0;
            for (Belt belt : belts) {
                stamped += belt.stamped;
            }
            return stamped;
        }
    }

    /** The plants ahead of the latest changes, in a ring, as all of them are made with the factory. */
    private static final class History {
        private final Plant[] plants = new Plant[MOST_CHANGES];
        private int at = 0;
        int count = 0;

        History() {
            for (int i = 0; i < MOST_CHANGES; i++) {
                plants[i] = new Plant();
            }
        }

        void remember(Plant plant) {
            plants[at].copyFrom(plant);
            at = (at + 1) % MOST_CHANGES;
            count = Math.min(count + 1, MOST_CHANGES);
        }

        void takeBack(Plant plant) {
            at = (at + MOST_CHANGES - 1) % MOST_CHANGES;
            plant.copyFrom(plants[at]);
            count--;
        }
    }

    private static final class Input {
        static final int WRONG = -2;
        private static final int ORDER_DUE = -1;

        private final char[] signs = new char[MOST_SIGNS];
        int length = 0;

        void add(char sign) {
            if (length < MOST_SIGNS) {
                signs[length] = sign;
                length++;
            }
        }

        char signAt(int at) {
            return at >= 0 && at < MOST_SIGNS ? signs[at] : 0;
        }

        int numberAt(int at) {
            char sign = signAt(at);
            return isDigit(sign) ? sign - '0' : 0;
        }

        /** Returns the error position of the text of the first signs, or NONE. */
        int findError(int textLength) {
            int due = ORDER_DUE;
            for (int at = 0; at < textLength; at++) {
                due = dueBehind(due, signAt(at));
                if (due == WRONG) {
                    return at;
                }
            }
            return due == 0 ? NONE : textLength;
        }

        int countOrders(int textLength) {
            int orders = 0;
            for (int at = 0; at < textLength; at++) {
                orders += numbersOf(signAt(at)) == WRONG ? 0 : 1;
            }
            return orders;
        }

        /** What is due: ORDER_DUE, or how many digits; with none of them left, a semicolon or the end. */
        private static int dueBehind(int due, char sign) {
            if (due == ORDER_DUE) {
                return numbersOf(sign);
            }
            if (due == 0) {
                return sign == ';' ? ORDER_DUE : WRONG;
            }
            return isDigit(sign) ? due - 1 : WRONG;
        }

        private static boolean isDigit(char sign) {
            return sign >= '0' && sign <= '9';
        }

        /** Returns how many numbers stand behind the letter of an order, or WRONG for another sign. */
        static int numbersOf(char sign) {
            switch (sign) {
                case MAKE:
                case TELL:
                    return 3;
                case BLANK:
                case INSPECT:
                case LEAVE:
                case SELL:
                case REPAIR:
                    return 1;
                case HIRE:
                case WEEK:
                    return 0;
                default:
                    return WRONG;
            }
        }
    }

    private static final class Line {
        // The shelf's line is the longest: eight rejects of four signs, and a blank between two.
        final char[] signs = new char[MOST_REJECTS * 5 - 1];
        int length = 0;

        void writeBelt(Belt belt) {
            length = 0;
            writeNumber(belt.least);
            write('/');
            writeNumber(belt.latest);
            write(':');
            for (int place = 0; place < belt.row.count; place++) {
                writeGap(place);
                writeCarrier(belt.row, place);
            }
        }

        void writeShelf(Row shelf) {
            length = 0;
            for (int reject = 0; reject < shelf.count; reject++) {
                writeGap(reject);
                writeCarrier(shelf, reject);
                write('!');
                writeNumber(shelf.number(reject, TEST));
            }
        }

        private void writeGap(int place) {
            if (place > 0) {
                write(' ');
            }
        }

        private void writeCarrier(Row row, int place) {
            if (row.isBlank(place)) {
                write('-');
                write('-');
            } else {
                writeNumber(row.grey(place));
                writeNumber(row.alarm(place));
            }
        }

        private void writeNumber(int digit) {
            write((char) ('0' + digit));
        }

        private void write(char sign) {
            if (length < signs.length) {
                signs[length] = sign;
                length++;
            }
        }
    }
}
