import java.util.ArrayList;
import java.util.Arrays;
import java.util.HashMap;
import java.util.HashSet;
import java.util.List;
import java.util.Map;
import java.util.NoSuchElementException;
import java.util.Set;

/** A second house, made straight from the document's words, without care for speed: what the class is compared with. */
final class Model {
    private record Row(int seats, int zone, int worth) { }

    private record Code(char kind, int value, boolean isAlone) { }

    private record Waiter(int buyer, int night, int people) { }

    private static final class Seat {
        char state = 'f';
        int owner;
        int paid;
        Hold hold;
    }

    private static final class Hold {
        int buyer;
        int sum;
        int since;
        final List<Seat> seats = new ArrayList<>();
    }

    private static final class Payment {
        Hold hold;
        int cost;
        int due;
    }

    private final List<Row> rows = new ArrayList<>();
    private final List<List<List<Seat>>> nights = new ArrayList<>();
    private final int[] prices = {10, 10, 10};
    private final List<Code> codes = new ArrayList<>();
    private final List<Integer> queue = new ArrayList<>();
    private final Set<Integer> in = new HashSet<>();
    private final Map<Integer, Hold> holds = new HashMap<>();
    private final Map<Integer, Payment> payments = new HashMap<>();
    private final List<Waiter> list = new ArrayList<>();
    private final Set<String> told = new HashSet<>();
    private final List<Set<String>> knownAlone = new ArrayList<>(Arrays.asList(null, null));
    private final List<Set<String>> letInAlone = new ArrayList<>(Arrays.asList(null, null));
    private int rate = 2;
    private int now;

    int addRow(int seats, int zone, int worth) {
        argument(within(seats, 1, 10) && within(zone, 0, 2) && within(worth, 0, 99));
        state(rows.size() < 8);
        rows.add(new Row(seats, zone, worth));
        return rows.size() - 1;
    }

    int addNight() {
        state(nights.size() < 3);
        List<List<Seat>> night = new ArrayList<>();
        for (Row row : rows) {
            List<Seat> seats = new ArrayList<>();
            for (int i = 0; i < row.seats; i++) {
                seats.add(new Seat());
            }
            night.add(seats);
        }
        nights.add(night);
        return nights.size() - 1;
    }

    int setPrice(int zone, int price) {
        argument(within(zone, 0, 2) && within(price, 1, 999));
        int before = prices[zone];
        prices[zone] = price;
        return before;
    }

    boolean setFree(int night, int row, int seat, boolean isFree) {
        Seat it = seat(night, row, seat);
        unsupported(it.state == 'f' || it.state == 'k');
        boolean isNew = isFree != (it.state == 'f');
        it.state = isFree ? 'f' : 'k';
        return isNew;
    }

    int addCode(char kind, int value, boolean isAlone) {
        argument(kind == 'p' && within(value, 1, 100) || kind == 'a' && within(value, 1, 999));
        state(codes.size() < 4);
        codes.add(new Code(kind, value, isAlone));
        return codes.size() - 1;
    }

    int cost(int sum, int set) {
        argument(within(sum, 0, 99999) && areCodes(set));
        return least(sum, set, 0);
    }

    int price(int night, int row, int seat) {
        seat(night, row, seat);
        int inUse = count(night, "fhs");
        int quarters = inUse == 0 ? 0 : 4 * count(night, "s") / inUse;
        return prices[rows.get(row).zone] * (10 + quarters) / 10;
    }

    char stateOf(int night, int row, int seat) {
        return seat(night, row, seat).state;
    }

    int best(int night, int people) {
        index(within(night, 0, nights.size() - 1));
        argument(within(people, 1, 6));
        int found = found(night, people);
        element(found >= 0);
        return found;
    }

    int join(int buyer) {
        index(within(buyer, 0, 19));
        state(!in.contains(buyer) && !queue.contains(buyer));
        queue.add(buyer);
        return queue.size();
    }

    boolean leave(int buyer) {
        index(within(buyer, 0, 19));
        free(holds.get(buyer), 'f');
        list.removeIf(waiter -> waiter.buyer == buyer);
        return in.remove(buyer) | queue.remove((Object) buyer);
    }

    int draw(int seed) {
        argument(seed >= 0);
        long z = seed;
        for (int number = queue.size(); number >= 2; number--) {
            z = (z * 1103515245L + 12345L) & 0x7fffffffL;
            int other = (int) ((z >> 16) % number);
            queue.set(other, queue.set(number - 1, queue.get(other)));
        }
        return queue.isEmpty() ? -1 : queue.get(0);
    }

    int setRate(int newRate) {
        argument(within(newRate, 0, 5));
        int before = rate;
        rate = newRate;
        return before;
    }

    int place(int buyer) {
        index(within(buyer, 0, 19));
        element(in.contains(buyer) || queue.contains(buyer));
        return in.contains(buyer) ? 0 : queue.indexOf(buyer) + 1;
    }

    int hold(int buyer, int night, int people) {
        index(within(buyer, 0, 19) && within(night, 0, nights.size() - 1));
        argument(within(people, 1, 6));
        state(in.contains(buyer) && !hasCart(buyer));
        unsupported(seatsOf(buyer, night) + people <= 6);
        element(found(night, people) >= 0);
        return take(buyer, night, people).sum;
    }

    int drop(int buyer) {
        index(within(buyer, 0, 19));
        state(holds.containsKey(buyer) && !payments.containsKey(buyer));
        int seats = holds.get(buyer).seats.size();
        free(holds.get(buyer), 'f');
        return seats;
    }

    int pay(int buyer, int set, int ticks) {
        index(within(buyer, 0, 19));
        argument(areCodes(set) && within(ticks, 1, 20));
        state(holds.containsKey(buyer) && !payments.containsKey(buyer));
        Payment payment = new Payment();
        payment.hold = holds.get(buyer);
        payment.cost = least(payment.hold.sum, set, 0);
        payment.due = now + ticks;
        payments.put(buyer, payment);
        return payment.cost;
    }

    char cartOf(int buyer) {
        index(within(buyer, 0, 19));
        return "nhwp".charAt((holds.containsKey(buyer) ? 1 : 0) + (payments.containsKey(buyer) ? 2 : 0));
    }

    int waitFor(int buyer, int night, int people) {
        index(within(buyer, 0, 19) && within(night, 0, nights.size() - 1));
        argument(within(people, 1, 6));
        state(in.contains(buyer) && !hasCart(buyer) && list.stream().noneMatch(waiter -> waiter.buyer == buyer));
        unsupported(found(night, people) < 0 && seatsOf(buyer, night) + people <= 6);
        list.add(new Waiter(buyer, night, people));
        return list.size();
    }

    int tick(int ticks) {
        argument(within(ticks, 1, 50));
        for (int i = 0; i < ticks; i++) {
            now++;
            for (int buyer = 0; buyer < 20; buyer++) {
                come(payments.get(buyer), buyer);
            }
            for (int buyer = 0; buyer < 20; buyer++) {
                if (holds.containsKey(buyer) && now - holds.get(buyer).since >= 10) {
                    free(holds.get(buyer), 'f');
                }
            }
            for (Waiter waiter : new ArrayList<>(list)) {
                if (!hasCart(waiter.buyer) && in.contains(waiter.buyer)
                        && seatsOf(waiter.buyer, waiter.night) + waiter.people <= 6
                        && found(waiter.night, waiter.people) >= 0) {
                    take(waiter.buyer, waiter.night, waiter.people);
                    list.remove(waiter);
                }
            }
            for (int nth = 0; nth < rate && !queue.isEmpty(); nth++) {
                in.add(queue.remove(0));
            }
        }
        return now;
    }

    int give(int night, int row, int seat, int to) {
        Seat it = seat(night, row, seat);
        index(within(to, 0, 19));
        element(it.state == 's');
        unsupported(it.owner != to && seatsOf(to, night) < 6);
        int from = it.owner;
        it.owner = to;
        return from;
    }

    long cancel(int night) {
        index(within(night, 0, nights.size() - 1));
        long back = 0;
        for (List<Seat> row : nights.get(night)) {
            for (Seat it : row) {
                back += it.paid;
                it.paid = 0;
                free(it.hold, 'k');
                it.state = 'k';
            }
        }
        list.removeIf(waiter -> waiter.night == night);
        return back;
    }

    boolean enter(int door, int night, int row, int seat) {
        index(within(door, 0, 1));
        unsupported(seat(night, row, seat).state == 's');
        String key = night + " " + row + " " + seat;
        if (knownAlone.get(door) == null) {
            return told.add(key);
        }
        boolean isNew = knownAlone.get(door).add(key);
        if (isNew) {
            letInAlone.get(door).add(key);
        }
        return isNew;
    }

    int connect(int door, boolean isConnected) {
        index(within(door, 0, 1));
        boolean was = knownAlone.get(door) == null;
        int quarrels = 0;
        if (was && !isConnected) {
            knownAlone.set(door, new HashSet<>(told));
            letInAlone.set(door, new HashSet<>());
        } else if (!was && isConnected) {
            Set<String> both = new HashSet<>(letInAlone.get(door));
            both.retainAll(told);
            quarrels = both.size();
            told.addAll(knownAlone.get(door));
            knownAlone.set(door, null);
        }
        return quarrels;
    }

    int owner(int night, int row, int seat) {
        element(seat(night, row, seat).state == 's');
        return seat(night, row, seat).owner;
    }

    long money() {
        long sum = 0;
        for (List<List<Seat>> night : nights) {
            for (List<Seat> row : night) {
                for (Seat it : row) {
                    sum += it.paid;
                }
            }
        }
        return sum;
    }

    float soldShare(int night) {
        index(within(night, 0, nights.size() - 1));
        if (count(night, "fhs") == 0) {
            throw new ArithmeticException();
        }
        return (float) count(night, "s") / (float) count(night, "fhs");
    }

    double meanPaid() {
        int sold = 0;
        for (int night = 0; night < nights.size(); night++) {
            sold += count(night, "s");
        }
        if (sold == 0) {
            throw new ArithmeticException();
        }
        return (double) money() / (double) sold;
    }

    boolean isSound() {
        return true;
    }

    private static boolean within(int number, int least, int most) {
        return number >= least && number <= most;
    }

    private static void index(boolean isGood) {
        if (!isGood) {
            throw new IndexOutOfBoundsException();
        }
    }

    private static void argument(boolean isGood) {
        if (!isGood) {
            throw new IllegalArgumentException();
        }
    }

    private static void state(boolean isGood) {
        if (!isGood) {
            throw new IllegalStateException();
        }
    }

    private static void unsupported(boolean isGood) {
        if (!isGood) {
            throw new UnsupportedOperationException();
        }
    }

    private static void element(boolean isGood) {
        if (!isGood) {
            throw new NoSuchElementException();
        }
    }

    private Seat seat(int night, int row, int seat) {
        index(within(night, 0, nights.size() - 1));
        index(within(row, 0, nights.get(night).size() - 1));
        index(within(seat, 0, nights.get(night).get(row).size() - 1));
        return nights.get(night).get(row).get(seat);
    }

    private int count(int night, String states) {
        int seats = 0;
        for (List<Seat> row : nights.get(night)) {
            for (Seat it : row) {
                seats += states.indexOf(it.state) >= 0 ? 1 : 0;
            }
        }
        return seats;
    }

    private boolean areCodes(int set) {
        return set >= 0 && set < 1 << codes.size();
    }

    /** Tries each code that is not used yet as the next one. */
    private int least(int rest, int set, int used) {
        int least = rest;
        for (int i = 0; i < codes.size(); i++) {
            Code code = codes.get(i);
            boolean isFirst = used == 0;
            if ((set >> i & 1) == 1 && (used >> i & 1) == 0 && (!code.isAlone || isFirst)) {
                int next = code.kind == 'p' ? rest - rest * code.value / 100 : Math.max(0, rest - code.value);
                least = Math.min(least, code.isAlone ? next : least(next, set, used | 1 << i));
            }
        }
        return least;
    }

    private boolean hasCart(int buyer) {
        return holds.containsKey(buyer) || payments.containsKey(buyer);
    }

    private int seatsOf(int buyer, int night) {
        int seats = 0;
        for (List<Seat> row : nights.get(night)) {
            for (Seat it : row) {
                boolean isHeld = it.state == 'h' && it.hold.buyer == buyer;
                seats += isHeld || it.state == 's' && it.owner == buyer ? 1 : 0;
            }
        }
        return seats;
    }

    /** All blocks, sorted by single ones, worth, row and seat. */
    private int found(int night, int people) {
        List<int[]> blocks = new ArrayList<>();
        for (int row = 0; row < nights.get(night).size(); row++) {
            StringBuilder line = new StringBuilder("..");
            nights.get(night).get(row).forEach(it -> line.append(it.state));
            line.append("..");
            for (int first = 0; first + people <= rows.get(row).seats; first++) {
                String around = line.substring(first, first + people + 4);
                if (around.substring(2, 2 + people).equals("f".repeat(people))) {
                    boolean isSingleLeft = around.charAt(1) == 'f' && around.charAt(0) != 'f';
                    boolean isSingleRight = around.charAt(2 + people) == 'f' && around.charAt(3 + people) != 'f';
                    int worth = 0;
                    for (int seat = first; seat < first + people; seat++) {
                        worth += rows.get(row).worth - Math.abs(2 * seat - rows.get(row).seats + 1);
                    }
                    blocks.add(new int[] {isSingleLeft || isSingleRight ? 1 : 0, -worth, 100 * row + first});
                }
            }
        }
        blocks.sort(Arrays::compare);
        return blocks.isEmpty() ? -1 : blocks.get(0)[2];
    }

    private Hold take(int buyer, int night, int people) {
        int found = found(night, people);
        Hold hold = new Hold();
        hold.buyer = buyer;
        hold.since = now;
        for (int i = 0; i < people; i++) {
            hold.sum += price(night, found / 100, found % 100 + i);
        }
        for (int i = 0; i < people; i++) {
            Seat it = seat(night, found / 100, found % 100 + i);
            it.state = 'h';
            it.hold = hold;
            hold.seats.add(it);
        }
        holds.put(buyer, hold);
        return hold;
    }

    private void free(Hold hold, char state) {
        if (hold != null) {
            hold.seats.forEach(it -> {
                it.state = state;
                it.hold = null;
            });
            holds.remove(hold.buyer);
        }
    }

    private void come(Payment payment, int buyer) {
        if (payment == null || payment.due != now) {
            return;
        }
        payments.remove(buyer);
        Hold hold = payment.hold;
        if (holds.get(buyer) != hold) {
            return;
        }
        int left = payment.cost;
        for (int i = 0; i < hold.seats.size(); i++) {
            Seat it = hold.seats.get(i);
            int parts = hold.seats.size() - i;
            it.paid = (left + parts - 1) / parts;
            left -= it.paid;
            it.state = 's';
            it.owner = buyer;
            it.hold = null;
        }
        holds.remove(buyer);
    }
}
