import java.util.NoSuchElementException;

/** A house of tickets: halls, prices, codes, a queue, carts, a list and doors. */
public final class Seatrush {
    private static final int MOST_ROWS = 8;
    private static final int MOST_SEATS_OF_ROW = 10;
    private static final int MOST_WORTH = 99;
    private static final int MOST_NIGHTS = 3;
    private static final int SPOTS = MOST_ROWS * MOST_SEATS_OF_ROW;
    private static final int ROW_FACTOR = 100;
    private static final int ZONES = 3;
    private static final int FIRST_PRICE = 10;
    private static final int MOST_PRICE = 999;
    private static final int MOST_CODES = 4;
    private static final int CODE_SETS = 1 << MOST_CODES;
    private static final int MOST_PERCENT = 100;
    private static final int MOST_AMOUNT = 999;
    private static final int MOST_SUM = 99999;
    private static final int BUYERS = 20;
    private static final int MOST_PEOPLE = 6;
    private static final int FIRST_RATE = 2;
    private static final int MOST_RATE = 5;
    private static final int HOLD_TICKS = 10;
    private static final int MOST_PAYMENT_TICKS = 20;
    private static final int MOST_TICKS = 50;
    private static final int DOORS = 2;
    private static final int NONE = -1;
    private static final char FREE = 'f';
    private static final char HELD = 'h';
    private static final char SOLD = 's';
    private static final char OUT_OF_USE = 'k';
    private static final char PERCENT = 'p';
    private static final char AMOUNT = 'a';

    private final Hall hall;
    private final Night[] nights;
    private final CodeBook codeBook;
    private final Queue queue;
    private final Cart[] carts;
    private final WaitList waitList;
    private final Doors doors;
    private int nightCount;
    private int now;
    private long paidMoney;

    public Seatrush() {
        hall = new Hall();
        nights = new Night[MOST_NIGHTS];
        for (int night = 0; night < MOST_NIGHTS; night++) {
            nights[night] = new Night(hall);
        }
        codeBook = new CodeBook();
        queue = new Queue();
        carts = new Cart[BUYERS];
        for (int buyer = 0; buyer < BUYERS; buyer++) {
            carts[buyer] = new Cart();
        }
        waitList = new WaitList();
        doors = new Doors();
    }

    // ---- Halls and prices ----

    public int addRow(int seats, int zone, int worth) throws IllegalArgumentException, IllegalStateException {
        if (seats < 1 || seats > MOST_SEATS_OF_ROW || !isZone(zone) || worth < 0 || worth > MOST_WORTH) {
            throw new IllegalArgumentException();
        }
        if (hall.rowCount() >= MOST_ROWS) {
            throw new IllegalStateException();
        }
        return hall.append(seats, zone, worth);
    }

    public int addNight() throws IllegalStateException {
        if (nightCount >= MOST_NIGHTS) {
            throw new IllegalStateException();
        }
        nights[nightCount].open();
        nightCount++;
        return nightCount - 1;
    }

    public int setPrice(int zone, int price) throws IllegalArgumentException {
        if (!isZone(zone) || price < 1 || price > MOST_PRICE) {
            throw new IllegalArgumentException();
        }
        return hall.changePrice(zone, price);
    }

    public boolean setFree(int night, int row, int seat, boolean isFree)
            throws IndexOutOfBoundsException, UnsupportedOperationException {
        if (!isSeat(night, row, seat)) {
            throw new IndexOutOfBoundsException();
        }
        char state = nights[night].stateAt(row, seat);
        if (state == HELD || state == SOLD) {
            throw new UnsupportedOperationException();
        }
        char wanted = isFree ? FREE : OUT_OF_USE;
        nights[night].mark(row, seat, 1, wanted);
        return state != wanted;
    }

    public int addCode(char kind, int value, boolean isAlone)
            throws IllegalArgumentException, IllegalStateException {
        if (!isCode(kind, value)) {
            throw new IllegalArgumentException();
        }
        if (codeBook.size() >= MOST_CODES) {
            throw new IllegalStateException();
        }
        return codeBook.append(kind, value, isAlone);
    }

    public int cost(int sum, int codes) throws IllegalArgumentException {
        if (sum < 0 || sum > MOST_SUM || !codeBook.hasAll(codes)) {
            throw new IllegalArgumentException();
        }
        return codeBook.leastCost(sum, codes);
    }

    public int price(int night, int row, int seat) throws IndexOutOfBoundsException {
        if (!isSeat(night, row, seat)) {
            throw new IndexOutOfBoundsException();
        }
        return nights[night].seatPrice(row);
    }

    public char stateOf(int night, int row, int seat) throws IndexOutOfBoundsException {
        if (!isSeat(night, row, seat)) {
            throw new IndexOutOfBoundsException();
        }
        return nights[night].stateAt(row, seat);
    }

    public int best(int night, int people)
            throws IndexOutOfBoundsException, IllegalArgumentException, NoSuchElementException {
        if (!isNight(night)) {
            throw new IndexOutOfBoundsException();
        }
        if (!isParty(people)) {
            throw new IllegalArgumentException();
        }
        int found = nights[night].bestSeats(people);
        if (found == NONE) {
            throw new NoSuchElementException();
        }
        return found;
    }

    // ---- Queue ----

    public int join(int buyer) throws IndexOutOfBoundsException, IllegalStateException {
        if (!isBuyer(buyer)) {
            throw new IndexOutOfBoundsException();
        }
        if (queue.isIn(buyer) || queue.isWaiting(buyer)) {
            throw new IllegalStateException();
        }
        return queue.append(buyer);
    }

    public boolean leave(int buyer) throws IndexOutOfBoundsException {
        if (!isBuyer(buyer)) {
            throw new IndexOutOfBoundsException();
        }
        freeHold(carts[buyer]);
        waitList.removeBuyer(buyer);
        return queue.remove(buyer);
    }

    public int draw(int seed) throws IllegalArgumentException {
        if (seed < 0) {
            throw new IllegalArgumentException();
        }
        queue.shuffle(seed);
        return queue.first();
    }

    public int setRate(int rate) throws IllegalArgumentException {
        if (rate < 0 || rate > MOST_RATE) {
            throw new IllegalArgumentException();
        }
        return queue.changeRate(rate);
    }

    public int place(int buyer) throws IndexOutOfBoundsException, NoSuchElementException {
        if (!isBuyer(buyer)) {
            throw new IndexOutOfBoundsException();
        }
        if (queue.isIn(buyer)) {
            return 0;
        }
        if (!queue.isWaiting(buyer)) {
            throw new NoSuchElementException();
        }
        return queue.indexOf(buyer) + 1;
    }

    // ---- Carts and lists ----

    public int hold(int buyer, int night, int people)
            throws IndexOutOfBoundsException, IllegalArgumentException, IllegalStateException,
            UnsupportedOperationException, NoSuchElementException {
        if (!isBuyer(buyer) || !isNight(night)) {
            throw new IndexOutOfBoundsException();
        }
        if (!isParty(people)) {
            throw new IllegalArgumentException();
        }
        if (!queue.isIn(buyer) || carts[buyer].isUsed()) {
            throw new IllegalStateException();
        }
        if (wouldHaveTooMany(buyer, night, people)) {
            throw new UnsupportedOperationException();
        }
        int found = nights[night].bestSeats(people);
        if (found == NONE) {
            throw new NoSuchElementException();
        }
        return holdSeats(buyer, night, people, found);
    }

    public int drop(int buyer) throws IndexOutOfBoundsException, IllegalStateException {
        if (!isBuyer(buyer)) {
            throw new IndexOutOfBoundsException();
        }
        Cart cart = carts[buyer];
        if (!cart.isHeld || cart.isPaying) {
            throw new IllegalStateException();
        }
        freeHold(cart);
        return cart.people;
    }

    public int pay(int buyer, int codes, int ticks)
            throws IndexOutOfBoundsException, IllegalArgumentException, IllegalStateException {
        if (!isBuyer(buyer)) {
            throw new IndexOutOfBoundsException();
        }
        if (!codeBook.hasAll(codes) || ticks < 1 || ticks > MOST_PAYMENT_TICKS) {
            throw new IllegalArgumentException();
        }
        Cart cart = carts[buyer];
        if (!cart.isHeld || cart.isPaying) {
            throw new IllegalStateException();
        }
        int due = codeBook.leastCost(cart.sum, codes);
        cart.startPayment(due, now + ticks);
        return due;
    }

    public char cartOf(int buyer) throws IndexOutOfBoundsException {
        if (!isBuyer(buyer)) {
            throw new IndexOutOfBoundsException();
        }
        return carts[buyer].sign();
    }

    public int waitFor(int buyer, int night, int people)
            throws IndexOutOfBoundsException, IllegalArgumentException, IllegalStateException,
            UnsupportedOperationException {
        if (!isBuyer(buyer) || !isNight(night)) {
            throw new IndexOutOfBoundsException();
        }
        if (!isParty(people)) {
            throw new IllegalArgumentException();
        }
        if (!queue.isIn(buyer) || carts[buyer].isUsed() || waitList.hasBuyer(buyer)) {
            throw new IllegalStateException();
        }
        if (wouldHaveTooMany(buyer, night, people) || nights[night].bestSeats(people) != NONE) {
            throw new UnsupportedOperationException();
        }
        return waitList.append(buyer, night, people);
    }

    public int tick(int ticks) throws IllegalArgumentException {
        if (ticks < 1 || ticks > MOST_TICKS) {
            throw new IllegalArgumentException();
        }
        for (int passed = 0; passed < ticks; passed++) {
            now++;
            takePayments();
            lapseHolds();
            serveWaitList();
            queue.letIn();
        }
        return now;
    }

    public int give(int night, int row, int seat, int to)
            throws IndexOutOfBoundsException, NoSuchElementException, UnsupportedOperationException {
        if (!isSeat(night, row, seat) || !isBuyer(to)) {
            throw new IndexOutOfBoundsException();
        }
        if (nights[night].stateAt(row, seat) != SOLD) {
            throw new NoSuchElementException();
        }
        int from = nights[night].ownerAt(row, seat);
        if (from == to || wouldHaveTooMany(to, night, 1)) {
            throw new UnsupportedOperationException();
        }
        nights[night].changeOwner(row, seat, to);
        return from;
    }

    public long cancel(int night) throws IndexOutOfBoundsException {
        if (!isNight(night)) {
            throw new IndexOutOfBoundsException();
        }
        for (int buyer = 0; buyer < BUYERS; buyer++) {
            if (carts[buyer].heldOn(night) > 0) {
                freeHold(carts[buyer]);
            }
        }
        waitList.removeNight(night);
        long back = nights[night].paidSum();
        nights[night].close();
        paidMoney -= back;
        return back;
    }

    // ---- Doors ----

    public boolean enter(int door, int night, int row, int seat)
            throws IndexOutOfBoundsException, UnsupportedOperationException {
        if (!isDoor(door) || !isSeat(night, row, seat)) {
            throw new IndexOutOfBoundsException();
        }
        if (nights[night].stateAt(row, seat) != SOLD) {
            throw new UnsupportedOperationException();
        }
        return doors.letIn(door, night, row * MOST_SEATS_OF_ROW + seat);
    }

    public int connect(int door, boolean isConnected) throws IndexOutOfBoundsException {
        if (!isDoor(door)) {
            throw new IndexOutOfBoundsException();
        }
        if (isConnected) {
            return doors.attach(door);
        }
        doors.detach(door);
        return 0;
    }

    // ---- Figures ----

    public int owner(int night, int row, int seat) throws IndexOutOfBoundsException, NoSuchElementException {
        if (!isSeat(night, row, seat)) {
            throw new IndexOutOfBoundsException();
        }
        if (nights[night].stateAt(row, seat) != SOLD) {
            throw new NoSuchElementException();
        }
        return nights[night].ownerAt(row, seat);
    }

    public long money() {
        return paidMoney;
    }

    public float soldShare(int night) throws IndexOutOfBoundsException, ArithmeticException {
        if (!isNight(night)) {
            throw new IndexOutOfBoundsException();
        }
        int inUse = nights[night].inUseCount();
        if (inUse == 0) {
            throw new ArithmeticException();
        }
        return (float) nights[night].soldCount() / (float) inUse;
    }

    public double meanPaid() throws ArithmeticException {
        int sold = 0;
        for (int night = 0; night < nightCount; night++) {
            sold += nights[night].soldCount();
        }
        if (sold == 0) {
            throw new ArithmeticException();
        }
        return (double) paidForSold() / (double) sold;
    }

    public boolean isSound() {
        return paidMoney == paidForSold() && areHoldsSound() && areSharesSound() && isQueueSound();
    }

    // ---- What is in range ----

    private static boolean isZone(int zone) {
        return zone >= 0 && zone < ZONES;
    }

    private static boolean isBuyer(int buyer) {
        return buyer >= 0 && buyer < BUYERS;
    }

    private static boolean isDoor(int door) {
        return door >= 0 && door < DOORS;
    }

    private static boolean isParty(int people) {
        return people >= 1 && people <= MOST_PEOPLE;
    }

    private static boolean isCode(char kind, int value) {
        if (kind == PERCENT) {
            return value >= 1 && value <= MOST_PERCENT;
        }
        return kind == AMOUNT && value >= 1 && value <= MOST_AMOUNT;
    }

    private boolean isNight(int night) {
        return night >= 0 && night < nightCount;
    }

    private boolean isSeat(int night, int row, int seat) {
        return isNight(night) && nights[night].hasSeats(row, seat, 1);
    }

    // ---- Holds and payments ----

    private boolean wouldHaveTooMany(int buyer, int night, int more) {
        return seatsOf(buyer, night) + more > MOST_PEOPLE;
    }

    private int seatsOf(int buyer, int night) {
        return nights[night].soldTo(buyer) + carts[buyer].heldOn(night);
    }

    private int holdSeats(int buyer, int night, int people, int found) {
        Cart cart = carts[buyer];
        int row = found / ROW_FACTOR;
        cart.startHold(night, row, found % ROW_FACTOR, people);
        cart.sum = nights[night].seatPrice(row) * people;
        cart.lapsesAt = now + HOLD_TICKS;
        nights[night].mark(row, cart.first, people, HELD);
        return cart.sum;
    }

    private void freeHold(Cart cart) {
        if (cart.isHeld) {
            nights[cart.night].mark(cart.row, cart.first, cart.people, FREE);
            cart.isHeld = false;
        }
    }

    private void takePayments() {
        for (int buyer = 0; buyer < BUYERS; buyer++) {
            Cart cart = carts[buyer];
            if (cart.isPaying && cart.comesAt == now) {
                cart.isPaying = false;
                sellHold(cart, buyer);
            }
        }
    }

    private void sellHold(Cart cart, int buyer) {
        if (cart.isHeld) {
            nights[cart.night].sell(cart.row, cart.first, cart.people, buyer, cart.payment);
            cart.isHeld = false;
            paidMoney += cart.payment;
        }
    }

    private void lapseHolds() {
        for (int buyer = 0; buyer < BUYERS; buyer++) {
            if (carts[buyer].lapsesAt == now) {
                freeHold(carts[buyer]);
            }
        }
    }

    private void serveWaitList() {
        int waiting = waitList.size();
        int kept = 0;
        for (int at = 0; at < waiting; at++) {
            if (!isServed(waitList.buyerAt(at), waitList.nightAt(at), waitList.peopleAt(at))) {
                waitList.copy(at, kept);
                kept++;
            }
        }
        waitList.shrinkTo(kept);
    }

    private boolean isServed(int buyer, int night, int people) {
        if (!isBuyer(buyer) || !isNight(night) || carts[buyer].isUsed() || !queue.isIn(buyer)) {
            return false;
        }
        if (wouldHaveTooMany(buyer, night, people)) {
            return false;
        }
        int found = nights[night].bestSeats(people);
        if (found == NONE) {
            return false;
        }
        holdSeats(buyer, night, people, found);
        return true;
    }

    // ---- Soundness ----

    private long paidForSold() {
        long paid = 0;
        for (int night = 0; night < nightCount; night++) {
            paid += nights[night].paidSum();
        }
        return paid;
    }

    private boolean areHoldsSound() {
        for (int night = 0; night < nightCount; night++) {
            for (int row = 0; row < MOST_ROWS; row++) {
                for (int seat = 0; seat < MOST_SEATS_OF_ROW; seat++) {
                    boolean isHeld = isSeat(night, row, seat) && nights[night].stateAt(row, seat) == HELD;
                    if (holdsOn(night, row, seat) != (isHeld ? 1 : 0)) {
                        return false;
                    }
                }
            }
        }
        return true;
    }

    private int holdsOn(int night, int row, int seat) {
        int holds = 0;
        for (int buyer = 0; buyer < BUYERS; buyer++) {
            if (carts[buyer].holds(night, row, seat)) {
                holds++;
            }
        }
        return holds;
    }

    private boolean areSharesSound() {
        for (int night = 0; night < nightCount; night++) {
            for (int buyer = 0; buyer < BUYERS; buyer++) {
                if (wouldHaveTooMany(buyer, night, 0)) {
                    return false;
                }
            }
        }
        return true;
    }

    private boolean isQueueSound() {
        for (int buyer = 0; buyer < BUYERS; buyer++) {
            if (queue.isIn(buyer) && queue.isWaiting(buyer)) {
                return false;
            }
        }
        return true;
    }

    /** The rows that are there, and what their zones cost. */
    private static final class Hall {
        private final int[] seats = new int[MOST_ROWS];
        private final int[] zones = new int[MOST_ROWS];
        private final int[] worths = new int[MOST_ROWS];
        private final int[] prices = new int[ZONES];
        private int count;

        Hall() {
            for (int zone = 0; zone < ZONES; zone++) {
                prices[zone] = FIRST_PRICE;
            }
        }

        int rowCount() {
            return count;
        }

        int append(int seatCount, int zone, int worth) {
            if (count < MOST_ROWS) {
                seats[count] = seatCount;
                zones[count] = zone;
                worths[count] = worth;
                count++;
            }
            return count - 1;
        }

        int changePrice(int zone, int price) {
            if (!isZone(zone)) {
                return 0;
            }
            int before = prices[zone];
            prices[zone] = price;
            return before;
        }

        private boolean hasRow(int row) {
            return row >= 0 && row < count;
        }

        int seatsIn(int row) {
            return hasRow(row) ? seats[row] : 0;
        }

        int zonePrice(int row) {
            if (!hasRow(row) || !isZone(zones[row])) {
                return 0;
            }
            return prices[zones[row]];
        }

        int worthOf(int row, int first, int people) {
            if (!hasRow(row)) {
                return 0;
            }
            int worth = 0;
            for (int seat = first; seat < first + people; seat++) {
                worth += worths[row] - Math.abs(2 * seat - (seats[row] - 1));
            }
            return worth;
        }
    }

    /** One night, with the rows that stood in the hall when it was added. */
    private static final class Night {
        private final Hall hall;
        private final int[] seatCounts = new int[MOST_ROWS];
        private final char[] states = new char[SPOTS];
        private final int[] owners = new int[SPOTS];
        private final int[] payments = new int[SPOTS];
        private int rows;
        private int inUse;
        private int sold;

        Night(Hall hall) {
            this.hall = hall;
        }

        void open() {
            rows = Math.min(hall.rowCount(), MOST_ROWS);
            for (int row = 0; row < rows; row++) {
                seatCounts[row] = hall.seatsIn(row);
            }
            markAll(FREE);
        }

        void close() {
            markAll(OUT_OF_USE);
        }

        private void markAll(char state) {
            for (int row = 0; row < rows; row++) {
                mark(row, 0, seatCounts[row], state);
            }
        }

        boolean hasSeats(int row, int first, int people) {
            return row >= 0 && row < rows
                    && first >= 0 && first < MOST_SEATS_OF_ROW
                    && people >= 0 && people <= MOST_SEATS_OF_ROW
                    && first + people <= seatCounts[row];
        }

        private static int spot(int row, int seat) {
            return row * MOST_SEATS_OF_ROW + seat;
        }

        void mark(int row, int first, int people, char state) {
            if (!hasSeats(row, first, people)) {
                return;
            }
            for (int seat = first; seat < first + people; seat++) {
                count(states[spot(row, seat)], -1);
                states[spot(row, seat)] = state;
                count(state, 1);
            }
        }

        private void count(char state, int change) {
            if (state == SOLD) {
                sold += change;
            }
            if (state == FREE || state == HELD || state == SOLD) {
                inUse += change;
            }
        }

        void sell(int row, int first, int people, int buyer, int cost) {
            if (!hasSeats(row, first, people) || people <= 0) {
                return;
            }
            mark(row, first, people, SOLD);
            int share = cost / people;
            int left = cost % people;
            for (int nth = 0; nth < people; nth++) {
                owners[spot(row, first + nth)] = buyer;
                payments[spot(row, first + nth)] = nth < left ? share + 1 : share;
            }
        }

        char stateAt(int row, int seat) {
            return hasSeats(row, seat, 1) ? states[spot(row, seat)] : OUT_OF_USE;
        }

        int ownerAt(int row, int seat) {
            return hasSeats(row, seat, 1) ? owners[spot(row, seat)] : NONE;
        }

        void changeOwner(int row, int seat, int buyer) {
            if (hasSeats(row, seat, 1)) {
                owners[spot(row, seat)] = buyer;
            }
        }

        int soldTo(int buyer) {
            int seats = 0;
            for (int spot = 0; spot < SPOTS; spot++) {
                if (states[spot] == SOLD && owners[spot] == buyer) {
                    seats++;
                }
            }
            return seats;
        }

        int soldCount() {
            return sold;
        }

        int inUseCount() {
            return inUse;
        }

        long paidSum() {
            long paid = 0;
            for (int spot = 0; spot < SPOTS; spot++) {
                if (states[spot] == SOLD) {
                    paid += payments[spot];
                }
            }
            return paid;
        }

        int seatPrice(int row) {
            int quarters = inUse > 0 ? 4 * sold / inUse : 0;
            return hall.zonePrice(row) * (10 + quarters) / 10;
        }

        int bestSeats(int people) {
            int found = NONE;
            int foundWorth = 0;
            boolean foundLeaves = false;
            for (int row = 0; row < rows; row++) {
                for (int first = 0; first < MOST_SEATS_OF_ROW; first++) {
                    if (!areFree(row, first, people)) {
                        continue;
                    }
                    int worth = hall.worthOf(row, first, people);
                    boolean leaves = leavesSingle(row, first, people);
                    boolean isBetter = leaves == foundLeaves ? worth > foundWorth : foundLeaves;
                    if (found == NONE || isBetter) {
                        found = row * ROW_FACTOR + first;
                        foundWorth = worth;
                        foundLeaves = leaves;
                    }
                }
            }
            return found;
        }

        private boolean areFree(int row, int first, int people) {
            if (!hasSeats(row, first, people)) {
                return false;
            }
            for (int seat = first; seat < first + people; seat++) {
                if (states[spot(row, seat)] != FREE) {
                    return false;
                }
            }
            return true;
        }

        private boolean leavesSingle(int row, int first, int people) {
            int left = first - 1;
            int right = first + people;
            return areFree(row, left, 1) && !areFree(row, left - 1, 1)
                    || areFree(row, right, 1) && !areFree(row, right + 1, 1);
        }
    }

    /** The codes, and the least cost by them. */
    private static final class CodeBook {
        private final char[] kinds = new char[MOST_CODES];
        private final int[] values = new int[MOST_CODES];
        private final int[] leasts = new int[CODE_SETS];
        private int aloneCodes;
        private int count;

        int size() {
            return count;
        }

        int append(char kind, int value, boolean isAlone) {
            if (count < MOST_CODES) {
                kinds[count] = kind;
                values[count] = value;
                aloneCodes |= isAlone ? 1 << count : 0;
                count++;
            }
            return count - 1;
        }

        boolean hasAll(int codes) {
            return codes >= 0 && codes < 1 << count;
        }

        // A lower rest never ends dearer than a higher one, whatever codes
        // follow: so the least cost with one code fewer is enough to go on from.
        int leastCost(int sum, int codes) {
            int least = sum;
            leasts[0] = sum;
            for (int used = 1; used < CODE_SETS; used++) {
                if ((used & codes) == used && isAllowed(used)) {
                    leasts[used] = leastByLast(sum, used);
                    least = Math.min(least, leasts[used]);
                }
            }
            return least;
        }

        private boolean isAllowed(int used) {
            return (used & aloneCodes) == 0 || Integer.bitCount(used) == 1;
        }

        private int leastByLast(int sum, int used) {
            int least = sum;
            for (int last = 0; last < MOST_CODES; last++) {
                int before = used & ~(1 << last);
                if (before != used && before >= 0 && before < CODE_SETS) {
                    least = Math.min(least, reduced(leasts[before], last));
                }
            }
            return least;
        }

        private int reduced(int rest, int code) {
            if (code < 0 || code >= MOST_CODES) {
                return rest;
            }
            if (kinds[code] == PERCENT) {
                return rest - rest * values[code] / 100;
            }
            return Math.max(0, rest - values[code]);
        }
    }

    /** Who waits, in order, and who is in. */
    private static final class Queue {
        private final int[] order = new int[BUYERS];
        private final boolean[] areIn = new boolean[BUYERS];
        private int count;
        private int rate = FIRST_RATE;

        boolean isIn(int buyer) {
            return isBuyer(buyer) && areIn[buyer];
        }

        boolean isWaiting(int buyer) {
            return indexOf(buyer) != NONE;
        }

        int indexOf(int buyer) {
            for (int at = 0; at < count && at < BUYERS; at++) {
                if (order[at] == buyer) {
                    return at;
                }
            }
            return NONE;
        }

        int first() {
            return count > 0 ? order[0] : NONE;
        }

        int append(int buyer) {
            if (count < BUYERS) {
                order[count] = buyer;
                count++;
            }
            return count;
        }

        boolean remove(int buyer) {
            boolean wasIn = isIn(buyer);
            if (wasIn) {
                areIn[buyer] = false;
            }
            int at = indexOf(buyer);
            if (at != NONE) {
                removeAt(at);
            }
            return wasIn || at != NONE;
        }

        private void removeAt(int gone) {
            if (gone < 0 || gone >= count) {
                return;
            }
            for (int at = gone + 1; at < count && at < BUYERS; at++) {
                order[at - 1] = order[at];
            }
            count--;
        }

        void shuffle(int seed) {
            long z = seed;
            for (int last = count - 1; last >= 1; last--) {
                z = (z * 1103515245L + 12345L) % 2147483648L;
                swap(last, (int) (z / 65536L % (last + 1)));
            }
        }

        private void swap(int one, int other) {
            if (one < 0 || one >= BUYERS || other < 0 || other >= BUYERS) {
                return;
            }
            int buyer = order[one];
            order[one] = order[other];
            order[other] = buyer;
        }

        int changeRate(int newRate) {
            int before = rate;
            rate = newRate;
            return before;
        }

        void letIn() {
            for (int nth = 0; nth < rate; nth++) {
                int buyer = first();
                if (isBuyer(buyer)) {
                    areIn[buyer] = true;
                    removeAt(0);
                }
            }
        }
    }

    /** A buyer's hold and payment; each may be there without the other. */
    private static final class Cart {
        private boolean isHeld;
        private int night;
        private int row;
        private int first;
        private int people;
        private int sum;
        private int lapsesAt;
        private boolean isPaying;
        private int payment;
        private int comesAt;

        boolean isUsed() {
            return isHeld || isPaying;
        }

        char sign() {
            if (isHeld) {
                return isPaying ? 'p' : 'h';
            }
            return isPaying ? 'w' : 'n';
        }

        void startHold(int heldNight, int heldRow, int firstSeat, int seats) {
            isHeld = true;
            night = heldNight;
            row = heldRow;
            first = firstSeat;
            people = seats;
        }

        void startPayment(int cost, int comingTick) {
            isPaying = true;
            payment = cost;
            comesAt = comingTick;
        }

        int heldOn(int askedNight) {
            return isHeld && night == askedNight ? people : 0;
        }

        boolean holds(int askedNight, int askedRow, int seat) {
            return heldOn(askedNight) > 0 && row == askedRow && seat >= first && seat < first + people;
        }
    }

    /** Those who found no seats, in their order; each buyer is in it once at most. */
    private static final class WaitList {
        private final int[] buyers = new int[BUYERS];
        private final int[] nights = new int[BUYERS];
        private final int[] parties = new int[BUYERS];
        private int count;

        int size() {
            return count;
        }

        private boolean hasPlace(int at) {
            return at >= 0 && at < count && at < BUYERS;
        }

        int buyerAt(int at) {
            return hasPlace(at) ? buyers[at] : NONE;
        }

        int nightAt(int at) {
            return hasPlace(at) ? nights[at] : NONE;
        }

        int peopleAt(int at) {
            return hasPlace(at) ? parties[at] : 0;
        }

        boolean hasBuyer(int buyer) {
            for (int at = 0; at < count; at++) {
                if (buyerAt(at) == buyer) {
                    return true;
                }
            }
            return false;
        }

        int append(int buyer, int night, int people) {
            if (count < BUYERS) {
                buyers[count] = buyer;
                nights[count] = night;
                parties[count] = people;
                count++;
            }
            return count;
        }

        void copy(int from, int to) {
            if (hasPlace(from) && hasPlace(to)) {
                buyers[to] = buyers[from];
                nights[to] = nights[from];
                parties[to] = parties[from];
            }
        }

        void shrinkTo(int kept) {
            count = kept;
        }

        void removeBuyer(int buyer) {
            int kept = 0;
            for (int at = 0; at < count; at++) {
                if (buyerAt(at) != buyer) {
                    copy(at, kept);
                    kept++;
                }
            }
            count = kept;
        }

        void removeNight(int night) {
            int kept = 0;
            for (int at = 0; at < count; at++) {
                if (nightAt(at) != night) {
                    copy(at, kept);
                    kept++;
                }
            }
            count = kept;
        }
    }

    /** What is known of who went in; the shared part outlives a time without any line. */
    private static final class Doors {
        private final boolean[] shared = new boolean[MOST_NIGHTS * SPOTS];
        private final DoorMemory[] memories = new DoorMemory[DOORS];

        Doors() {
            for (int door = 0; door < DOORS; door++) {
                memories[door] = new DoorMemory();
            }
        }

        boolean letIn(int door, int night, int spot) {
            int at = night * SPOTS + spot;
            if (!isDoor(door) || at < 0 || at >= shared.length) {
                return false;
            }
            DoorMemory memory = memories[door];
            if (memory.isConnected) {
                boolean isNew = !shared[at];
                shared[at] = true;
                return isNew;
            }
            return memory.letIn(at);
        }

        void detach(int door) {
            if (isDoor(door) && memories[door].isConnected) {
                memories[door].isConnected = false;
                memories[door].startFrom(shared);
            }
        }

        int attach(int door) {
            if (!isDoor(door) || memories[door].isConnected) {
                return 0;
            }
            memories[door].isConnected = true;
            return memories[door].tellTo(shared);
        }
    }

    /** What a door knows while it has no line, and whom it let in meanwhile. */
    private static final class DoorMemory {
        private final boolean[] known = new boolean[MOST_NIGHTS * SPOTS];
        private final boolean[] letInHere = new boolean[MOST_NIGHTS * SPOTS];
        private boolean isConnected = true;

        void startFrom(boolean[] shared) {
            for (int at = 0; at < known.length && at < letInHere.length && at < shared.length; at++) {
                known[at] = shared[at];
                letInHere[at] = false;
            }
        }

        boolean letIn(int at) {
            if (at < 0 || at >= known.length || at >= letInHere.length || known[at]) {
                return false;
            }
            known[at] = true;
            letInHere[at] = true;
            return true;
        }

        int tellTo(boolean[] shared) {
            int quarrels = 0;
            for (int at = 0; at < letInHere.length && at < shared.length; at++) {
                if (letInHere[at]) {
                    quarrels += shared[at] ? 1 : 0;
                    shared[at] = true;
                }
            }
            return quarrels;
        }
    }
}
