/** Promises 1 to 10: a new object, rows, nights, prices, seats, codes and the best seats. */
public final class HallTest {
    public static void main(String[] args) {
        newObject();
        rows();
        nights();
        prices();
        pricesMove();
        freeSeats();
        codes();
        costs();
        costsOfOrders();
        best();
        bestOfWorths();
        bestLeavesNoSingle();
        Script.end();
    }

    private static void newObject() {
        Script.run("promise 1: a new object", """
            best(0, 1) = throws.IndexOutOfBoundsException
            soldShare(0) = throws.IndexOutOfBoundsException
            money() = 0; meanPaid() = throws.ArithmeticException; isSound() = true
            draw(1) = -1; setRate(0) = 2
            place(0) = throws.NoSuchElementException; cartOf(0) = n; cartOf(19) = n
            cost(7, 0) = 7; cost(7, 1) = throws.IllegalArgumentException
            setPrice(0, 1) = 10; setPrice(1, 1) = 10; setPrice(2, 1) = 10
            connect(0, true) = 0; connect(1, true) = 0
            tick(1) = 1
            addRow(1, 0, 0) = 0; addNight() = 0
            """);
    }

    private static void rows() {
        Script.run("promise 2: addRow, wrong numbers", """
            addRow(0, 0, 0) = throws.IllegalArgumentException
            addRow(-1, 0, 0) = throws.IllegalArgumentException
            addRow(11, 0, 0) = throws.IllegalArgumentException
            addRow(1, -1, 0) = throws.IllegalArgumentException
            addRow(1, 3, 0) = throws.IllegalArgumentException
            addRow(1, 0, -1) = throws.IllegalArgumentException
            addRow(1, 0, 100) = throws.IllegalArgumentException
            addRow(2147483647, -2147483648, 2147483647) = throws.IllegalArgumentException
            addRow(1, 0, 0) = 0; addRow(10, 2, 99) = 1
            """);
        Script.run("promise 2: addRow, up to 8", """
            addRow(1, 0, 0) = 0; addRow(1, 0, 0) = 1; addRow(1, 0, 0) = 2; addRow(1, 0, 0) = 3
            addRow(1, 0, 0) = 4; addRow(1, 0, 0) = 5; addRow(1, 0, 0) = 6; addRow(10, 2, 99) = 7
            addRow(1, 0, 0) = throws.IllegalStateException
            addRow(0, 0, 0) = throws.IllegalArgumentException
            addNight() = 0
            stateOf(0, 7, 9) = f; stateOf(0, 8, 0) = throws.IndexOutOfBoundsException
            """);
    }

    private static void nights() {
        Script.run("promise 3: addNight", """
            addNight() = 0
            addRow(2, 0, 0) = 0; addNight() = 1
            addRow(3, 0, 0) = 1; addNight() = 2
            addNight() = throws.IllegalStateException
            stateOf(0, 0, 0) = throws.IndexOutOfBoundsException
            stateOf(1, 0, 1) = f; stateOf(1, 0, 2) = throws.IndexOutOfBoundsException
            stateOf(1, 1, 0) = throws.IndexOutOfBoundsException
            stateOf(2, 1, 2) = f; stateOf(2, 1, 3) = throws.IndexOutOfBoundsException
            stateOf(3, 0, 0) = throws.IndexOutOfBoundsException
            soldShare(0) = throws.ArithmeticException; soldShare(2) = 0.0
            """);
    }

    private static void prices() {
        Script.run("promises 4 and 8: setPrice and price", """
            setPrice(-1, 1) = throws.IllegalArgumentException
            setPrice(3, 1) = throws.IllegalArgumentException
            setPrice(0, 0) = throws.IllegalArgumentException
            setPrice(0, 1000) = throws.IllegalArgumentException
            setPrice(0, -5) = throws.IllegalArgumentException
            addRow(2, 0, 0) = 0; addRow(2, 1, 0) = 1; addRow(2, 2, 0) = 2; addNight() = 0
            price(0, 0, 0) = 10; price(0, 1, 1) = 10; price(0, 2, 0) = 10
            setPrice(0, 1) = 10; setPrice(0, 999) = 1; setPrice(2, 33) = 10
            price(0, 0, 1) = 999; price(0, 1, 0) = 10; price(0, 2, 1) = 33
            price(-1, 0, 0) = throws.IndexOutOfBoundsException
            price(1, 0, 0) = throws.IndexOutOfBoundsException
            price(0, -1, 0) = throws.IndexOutOfBoundsException
            price(0, 3, 0) = throws.IndexOutOfBoundsException
            price(0, 0, -1) = throws.IndexOutOfBoundsException
            price(0, 0, 2) = throws.IndexOutOfBoundsException
            price(0, 0, 2147483647) = throws.IndexOutOfBoundsException
            setFree(0, 0, 0, false) = true; price(0, 0, 0) = 999
            """);
    }

    private static void pricesMove() {
        Script.run("promise 8: prices move with what is sold, not with what is held", """
            addRow(6, 0, 50) = 0; addRow(1, 1, 0) = 1; addNight() = 0; addNight() = 1
            setPrice(0, 99) = 10; setPrice(1, 15) = 10
            join(0) = 1; join(1) = 2; tick(1) = 1
            hold(0, 0, 1) = 99; price(0, 0, 0) = 99
            pay(0, 0, 1) = 99; tick(1) = 2
            price(0, 0, 0) = 99                     # 4 * 1 / 7 is 0
            hold(0, 0, 1) = 99; pay(0, 0, 1) = 99; tick(1) = 3
            price(0, 0, 0) = 108; price(0, 1, 0) = 16   # one quarter; 108.9 and 16.5
            price(1, 0, 0) = 99                     # another night
            setFree(0, 0, 0, false) = true; setFree(0, 0, 1, false) = true; setFree(0, 0, 5, false) = true
            price(0, 0, 0) = 118                    # 4 * 2 / 4 is 2 quarters
            setFree(0, 1, 0, false) = true; price(0, 0, 0) = 118
            hold(1, 0, 1) = 118; pay(1, 0, 1) = 118; tick(1) = 4
            price(0, 0, 0) = 138; price(0, 1, 0) = 21   # all in use are sold
            cancel(0) = 316; price(0, 0, 0) = 99    # none is in use
            """);
        Script.run("promise 8: one seat alone", """
            addRow(1, 0, 0) = 0; addNight() = 0; join(0) = 1; tick(1) = 1
            hold(0, 0, 1) = 10; price(0, 0, 0) = 10; pay(0, 0, 1) = 10; tick(1) = 2; price(0, 0, 0) = 14
            """);
    }

    private static void freeSeats() {
        Script.run("promises 5 and 9: setFree and stateOf", """
            addRow(3, 0, 0) = 0; addNight() = 0; addNight() = 1
            setFree(2, 0, 0, true) = throws.IndexOutOfBoundsException
            setFree(-1, 0, 0, true) = throws.IndexOutOfBoundsException
            setFree(0, 1, 0, true) = throws.IndexOutOfBoundsException
            setFree(0, 0, 3, false) = throws.IndexOutOfBoundsException
            setFree(0, 0, -1, false) = throws.IndexOutOfBoundsException
            setFree(0, 0, 1, true) = false; stateOf(0, 0, 1) = f
            setFree(0, 0, 1, false) = true; stateOf(0, 0, 1) = k
            setFree(0, 0, 1, false) = false; stateOf(0, 0, 1) = k
            stateOf(1, 0, 1) = f; stateOf(0, 0, 0) = f; stateOf(0, 0, 2) = f
            setFree(0, 0, 1, true) = true; stateOf(0, 0, 1) = f
            join(0) = 1; tick(1) = 1; hold(0, 0, 1) = 10; stateOf(0, 0, 0) = h
            setFree(0, 0, 0, true) = throws.UnsupportedOperationException
            setFree(0, 0, 0, false) = throws.UnsupportedOperationException
            stateOf(0, 0, 0) = h
            pay(0, 0, 1) = 10; tick(1) = 2; stateOf(0, 0, 0) = s
            setFree(0, 0, 0, true) = throws.UnsupportedOperationException
            setFree(0, 0, 0, false) = throws.UnsupportedOperationException
            stateOf(0, 0, 0) = s
            stateOf(0, 0, 3) = throws.IndexOutOfBoundsException
            stateOf(0, 0, -1) = throws.IndexOutOfBoundsException
            stateOf(0, -1, 0) = throws.IndexOutOfBoundsException
            stateOf(0, 1, 0) = throws.IndexOutOfBoundsException
            stateOf(2, 0, 0) = throws.IndexOutOfBoundsException
            stateOf(-2147483648, 0, 0) = throws.IndexOutOfBoundsException
            """);
    }

    private static void codes() {
        Script.run("promise 6: addCode", """
            addCode('x', 1, false) = throws.IllegalArgumentException
            addCode('P', 1, false) = throws.IllegalArgumentException
            addCode('p', 0, false) = throws.IllegalArgumentException
            addCode('p', 101, false) = throws.IllegalArgumentException
            addCode('a', 0, false) = throws.IllegalArgumentException
            addCode('a', 1000, false) = throws.IllegalArgumentException
            addCode('a', -1, true) = throws.IllegalArgumentException
            addCode('p', 100, false) = 0; addCode('p', 1, false) = 1
            addCode('a', 999, false) = 2; addCode('a', 1, false) = 3
            addCode('a', 1, false) = throws.IllegalStateException
            addCode('a', 1000, false) = throws.IllegalArgumentException
            addCode('b', 1, false) = throws.IllegalArgumentException
            cost(1000, 1) = 0; cost(1000, 2) = 990; cost(1000, 4) = 1; cost(1000, 8) = 999
            """);
    }

    private static void costs() {
        Script.run("promise 7: cost, wrong numbers", """
            cost(0, 0) = 0; cost(99999, 0) = 99999
            cost(-1, 0) = throws.IllegalArgumentException
            cost(100000, 0) = throws.IllegalArgumentException
            cost(5, 1) = throws.IllegalArgumentException
            cost(5, -1) = throws.IllegalArgumentException
            addCode('a', 3, false) = 0
            cost(5, 1) = 2; cost(2, 1) = 0; cost(5, 0) = 5
            cost(5, 2) = throws.IllegalArgumentException
            cost(5, 3) = throws.IllegalArgumentException
            cost(5, -2147483648) = throws.IllegalArgumentException
            addCode('p', 100, true) = 1; addCode('p', 1, true) = 2; addCode('p', 1, true) = 3
            cost(5, 15) = 0; cost(5, 16) = throws.IllegalArgumentException
            """);
        Script.run("promise 7: what is taken is rounded down", """
            addCode('p', 1, false) = 0; addCode('p', 99, false) = 1; addCode('p', 50, false) = 2
            cost(99, 1) = 99; cost(100, 1) = 99; cost(199, 1) = 198; cost(200, 1) = 198
            cost(1, 2) = 1; cost(2, 2) = 1; cost(101, 2) = 2; cost(99999, 2) = 1000
            cost(7, 4) = 4; cost(99999, 4) = 50000
            """);
    }

    private static void costsOfOrders() {
        Script.run("promise 7: the order that costs least", """
            addCode('p', 50, false) = 0; addCode('a', 10, false) = 1; addCode('p', 30, false) = 2
            cost(80, 3) = 30        # half first, then 10
            cost(15, 3) = 0         # half is 8, less 10
            cost(90, 5) = 32        # 90 45 32, or 90 63 32
            cost(101, 5) = 36       # 101 51 36, or 101 71 36
            cost(99, 5) = 35        # 99 70 35, or 99 50 35
            cost(7, 5) = 3          # 7 4 3, or 7 5 3
            cost(103, 7) = 27
            """);
        Script.run("promise 7: a percent after an amount may be cheaper by rounding", """
            addCode('p', 50, false) = 0; addCode('a', 1, false) = 1
            cost(3, 3) = 1          # 3 2 1, and 3 2 1
            cost(4, 3) = 1          # 4 2 1, and 4 3 2
            cost(5, 3) = 2
            """);
        Script.run("promise 7: a code that is alone", """
            addCode('a', 45, true) = 0; addCode('p', 10, false) = 1; addCode('a', 40, false) = 2; addCode('a', 50, true) = 3
            cost(100, 1) = 55; cost(100, 2) = 90; cost(100, 4) = 60
            cost(100, 3) = 55       # not both
            cost(100, 6) = 50; cost(100, 7) = 50
            cost(100, 9) = 50       # two that are alone
            cost(60, 7) = 14; cost(60, 3) = 15; cost(60, 15) = 10
            cost(60, 6) = 14; cost(10, 15) = 0
            """);
    }

    private static void best() {
        Script.run("promise 10: best, wrong numbers", """
            best(0, 0) = throws.IndexOutOfBoundsException
            best(-1, 1) = throws.IndexOutOfBoundsException
            addNight() = 0
            best(0, 0) = throws.IllegalArgumentException
            best(0, 7) = throws.IllegalArgumentException
            best(0, -1) = throws.IllegalArgumentException
            best(1, 7) = throws.IndexOutOfBoundsException
            best(0, 1) = throws.NoSuchElementException; best(0, 6) = throws.NoSuchElementException
            addRow(5, 0, 0) = 0; addNight() = 1
            best(0, 1) = throws.NoSuchElementException
            best(1, 5) = 0; best(1, 6) = throws.NoSuchElementException
            setFree(1, 0, 2, false) = true
            best(1, 2) = 0; best(1, 3) = throws.NoSuchElementException
            """);
    }

    private static void bestOfWorths() {
        Script.run("promise 10: the greatest worth, then the lowest row, then the lowest seats", """
            addRow(4, 0, 10) = 0; addRow(4, 0, 12) = 1; addRow(4, 0, 12) = 2; addRow(10, 0, 16) = 3; addNight() = 0
            best(0, 4) = 303        # 60, and 40 in the row 1
            best(0, 2) = 304        # 15 and 15; the row 1 has 11 and 11 with singles left
            setFree(0, 3, 4, false) = true
            best(0, 2) = 305        # 15 and 13, and three are left
            setFree(0, 3, 5, false) = true; setFree(0, 3, 6, false) = true; setFree(0, 3, 7, false) = true
            best(0, 2) = 302        # 11 + 13 leaves two
            setFree(0, 3, 1, false) = true
            best(0, 2) = 302
            setFree(0, 3, 3, false) = true
            best(0, 2) = 100        # in the row 1 it is 9 + 11, and lower than the row 2
            best(0, 4) = 100; best(0, 1) = 302
            """);
        Script.run("promise 10: a worth less than 0", """
            addRow(10, 0, 0) = 0; addNight() = 0
            setFree(0, 0, 3, false) = true; setFree(0, 0, 4, false) = true; setFree(0, 0, 5, false) = true
            setFree(0, 0, 6, false) = true; setFree(0, 0, 7, false) = true; setFree(0, 0, 8, false) = true
            best(0, 1) = 2; best(0, 2) = 1; best(0, 3) = 0
            setFree(0, 0, 1, false) = true; setFree(0, 0, 2, false) = true
            best(0, 1) = 0          # both ends are worth -9
            """);
    }

    private static void bestLeavesNoSingle() {
        Script.run("promise 10: no single one is left, if that can be", """
            addRow(5, 0, 50) = 0; addRow(3, 0, 1) = 1; addNight() = 0
            best(0, 1) = 2          # two are left on each side
            best(0, 2) = 0          # not 1, which leaves the seat 0
            best(0, 3) = 0          # two are left; at 1 two singles
            best(0, 4) = 0          # always a single: the greatest worth, then the lowest
            setFree(0, 0, 3, false) = true
            best(0, 3) = 0; best(0, 2) = 1      # each two leave a single here
            setFree(0, 0, 3, true) = true; setFree(0, 1, 0, false) = true
            best(0, 2) = 0
            setFree(0, 0, 0, false) = true
            best(0, 2) = 1; best(0, 1) = 1; best(0, 3) = 1; best(0, 4) = 1
            """);
        Script.run("promise 10: a row of little worth, but without a single", """
            addRow(3, 0, 99) = 0; addRow(2, 0, 0) = 1; addNight() = 0
            best(0, 2) = 100; best(0, 3) = 0; best(0, 1) = 0
            """);
        Script.run("promise 10: a held seat makes a single too", """
            addRow(4, 0, 50) = 0; addRow(4, 0, 40) = 1; addNight() = 0
            join(0) = 1; tick(1) = 1
            best(0, 1) = 0          # at 1 the seat 0 were single; at 0 three are left
            hold(0, 0, 1) = 10; best(0, 1) = 1; best(0, 2) = 100; best(0, 3) = 1
            """);
    }
}
