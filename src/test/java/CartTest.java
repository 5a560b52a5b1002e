/** Promises 16 to 23: holds, payments, the list, ticks, gifts and cancelled nights. */
public final class CartTest {
    public static void main(String[] args) {
        holding();
        holdingOrder();
        holdingAtMostSix();
        dropping();
        paying();
        payingWithCodes();
        lateness();
        carts();
        waiting();
        listInOrder();
        listAndLapses();
        ticks();
        longestUse();
        giving();
        cancelling();
        cancellingOneOfTwo();
        cancelledSeatsAgain();
        Script.end();
    }

    private static void holding() {
        Script.run("promise 16: hold, wrong calls", """
            hold(0, 0, 1) = throws.IndexOutOfBoundsException
            addRow(4, 1, 0) = 0; addNight() = 0; setPrice(1, 25) = 10
            hold(20, 0, 1) = throws.IndexOutOfBoundsException
            hold(-1, 0, 0) = throws.IndexOutOfBoundsException
            hold(0, 1, 0) = throws.IndexOutOfBoundsException
            hold(0, 0, 0) = throws.IllegalArgumentException
            hold(0, 0, 7) = throws.IllegalArgumentException
            hold(0, 0, 1) = throws.IllegalStateException    # not there
            join(0) = 1
            hold(0, 0, 1) = throws.IllegalStateException    # waits
            tick(1) = 1
            hold(0, 0, 5) = throws.NoSuchElementException
            hold(0, 0, 3) = 75
            stateOf(0, 0, 0) = h; stateOf(0, 0, 1) = h; stateOf(0, 0, 2) = h; stateOf(0, 0, 3) = f
            hold(0, 0, 1) = throws.IllegalStateException    # has a cart
            hold(0, 0, 7) = throws.IllegalArgumentException
            leave(0) = true; hold(0, 0, 1) = throws.IllegalStateException
            """);
    }

    private static void holdingOrder() {
        Script.run("promise 16: of several exceptions the first", """
            addRow(10, 0, 0) = 0; addNight() = 0; join(0) = 1; tick(1) = 1
            hold(0, 0, 6) = 60; pay(0, 0, 1) = 60
            hold(0, 0, 6) = throws.IllegalStateException    # a cart, and 12 seats, and none
            tick(1) = 2
            hold(0, 0, 6) = throws.UnsupportedOperationException    # 12 seats, and none
            leave(0) = true
            hold(0, 0, 6) = throws.IllegalStateException
            """);
    }

    private static void holdingAtMostSix() {
        Script.run("promise 16: at most 6 seats of a night", """
            addRow(10, 0, 0) = 0; addNight() = 0; addNight() = 1; join(0) = 1; join(1) = 2; tick(1) = 1
            hold(0, 0, 4) = 40; pay(0, 0, 1) = 40; tick(1) = 2
            hold(0, 0, 3) = throws.UnsupportedOperationException
            hold(1, 0, 3) = 33; drop(1) = 3
            hold(0, 0, 2) = 22; cartOf(0) = h; drop(0) = 2
            hold(0, 1, 6) = 60                              # another night
            """);
    }

    private static void dropping() {
        Script.run("promise 17: drop", """
            drop(20) = throws.IndexOutOfBoundsException
            drop(-1) = throws.IndexOutOfBoundsException
            drop(0) = throws.IllegalStateException
            addRow(5, 0, 0) = 0; addNight() = 0; join(0) = 1; tick(1) = 1
            drop(0) = throws.IllegalStateException
            hold(0, 0, 3) = 30; drop(0) = 3; cartOf(0) = n; stateOf(0, 0, 0) = f; stateOf(0, 0, 2) = f
            drop(0) = throws.IllegalStateException
            hold(0, 0, 5) = 50; pay(0, 0, 20) = 50
            drop(0) = throws.IllegalStateException; stateOf(0, 0, 0) = h
            tick(10) = 11; cartOf(0) = w; drop(0) = throws.IllegalStateException
            tick(10) = 21; cartOf(0) = n; hold(0, 0, 5) = 50; drop(0) = 5; place(0) = 0
            """);
    }

    private static void paying() {
        Script.run("promise 18: pay, wrong calls", """
            pay(20, 0, 1) = throws.IndexOutOfBoundsException
            pay(-1, 1, 0) = throws.IndexOutOfBoundsException
            pay(0, 1, 1) = throws.IllegalArgumentException
            pay(0, -1, 1) = throws.IllegalArgumentException
            pay(0, 0, 0) = throws.IllegalArgumentException
            pay(0, 0, 21) = throws.IllegalArgumentException
            pay(0, 0, 1) = throws.IllegalStateException
            addRow(5, 0, 0) = 0; addNight() = 0; join(0) = 1; tick(1) = 1
            pay(0, 0, 1) = throws.IllegalStateException
            hold(0, 0, 3) = 30
            pay(0, 1, 1) = throws.IllegalArgumentException; cartOf(0) = h
            pay(0, 0, 1) = 30; pay(0, 0, 1) = throws.IllegalStateException
            pay(0, 0, 0) = throws.IllegalArgumentException
            money() = 0; tick(1) = 2; money() = 30; cartOf(0) = n
            stateOf(0, 0, 0) = s; owner(0, 0, 2) = 0
            pay(0, 0, 1) = throws.IllegalStateException
            """);
    }

    private static void payingWithCodes() {
        Script.run("promise 18: the cost by codes, of the sum when it was held", """
            addRow(5, 0, 0) = 0; addNight() = 0; join(0) = 1; tick(1) = 1
            addCode('p', 50, false) = 0; addCode('a', 7, false) = 1
            setPrice(0, 33) = 10; hold(0, 0, 3) = 99
            setPrice(0, 999) = 33; addCode('a', 999, true) = 2
            pay(0, 8, 2) = throws.IllegalArgumentException
            pay(0, 3, 2) = 43; tick(2) = 3; money() = 43
            meanPaid() = 14.333333333333334
            hold(0, 0, 1) = 1198; pay(0, 4, 1) = 199; tick(1) = 4; money() = 242
            leave(0) = true; join(1) = 1; tick(1) = 5; hold(1, 0, 1) = 1298
            pay(1, 7, 1) = 299; tick(1) = 6; money() = 541; owner(0, 0, 4) = 1
            """);
    }

    private static void lateness() {
        Script.run("promise 18: a payment in the tick of the lapse is in time, one later is not", """
            addRow(6, 0, 0) = 0; addNight() = 0; join(0) = 1; join(1) = 2; tick(1) = 1
            hold(0, 0, 3) = 30; pay(0, 0, 10) = 30
            hold(1, 0, 3) = 30; pay(1, 0, 11) = 30
            tick(9) = 10; cartOf(0) = p; cartOf(1) = p; money() = 0
            tick(1) = 11; cartOf(0) = n; cartOf(1) = w; money() = 30
            tick(1) = 12; cartOf(1) = n; money() = 30; stateOf(0, 0, 0) = s; stateOf(0, 0, 3) = f
            """);
        Script.run("promise 18: a payment that comes late, when another one holds the seats", """
            addRow(3, 0, 0) = 0; addNight() = 0; join(0) = 1; join(1) = 2; tick(1) = 1
            hold(0, 0, 3) = 30; tick(5) = 6; pay(0, 0, 6) = 30
            tick(5) = 11; cartOf(0) = w; hold(1, 0, 3) = 30; pay(1, 0, 1) = 30
            tick(1) = 12; cartOf(0) = n; cartOf(1) = n; money() = 30
            owner(0, 0, 0) = 1; isSound() = true
            """);
    }

    private static void carts() {
        Script.run("promise 19: cartOf", """
            cartOf(20) = throws.IndexOutOfBoundsException
            cartOf(-1) = throws.IndexOutOfBoundsException
            cartOf(0) = n; cartOf(19) = n
            addRow(3, 0, 0) = 0; addNight() = 0; join(19) = 1; tick(1) = 1
            hold(19, 0, 1) = 10; cartOf(19) = h; cartOf(0) = n
            pay(19, 0, 20) = 10; cartOf(19) = p
            leave(19) = true; cartOf(19) = w
            tick(19) = 20; cartOf(19) = w; tick(1) = 21; cartOf(19) = n
            """);
    }

    private static void waiting() {
        Script.run("promise 20: waitFor", """
            waitFor(0, 0, 1) = throws.IndexOutOfBoundsException
            addRow(8, 0, 0) = 0; addNight() = 0
            waitFor(20, 0, 1) = throws.IndexOutOfBoundsException
            waitFor(-1, 0, 0) = throws.IndexOutOfBoundsException
            waitFor(0, -1, 0) = throws.IndexOutOfBoundsException
            waitFor(0, 0, 0) = throws.IllegalArgumentException
            waitFor(0, 0, 7) = throws.IllegalArgumentException
            waitFor(0, 0, 1) = throws.IllegalStateException
            join(0) = 1; join(1) = 2; join(2) = 3; join(3) = 4
            waitFor(0, 0, 1) = throws.IllegalStateException
            tick(2) = 2
            waitFor(0, 0, 1) = throws.UnsupportedOperationException     # there are seats
            hold(0, 0, 6) = 60; pay(0, 0, 1) = 60; tick(1) = 3
            waitFor(0, 0, 6) = throws.UnsupportedOperationException     # would have 12
            waitFor(0, 0, 1) = throws.UnsupportedOperationException
            waitFor(1, 0, 3) = 1
            waitFor(1, 0, 4) = throws.IllegalStateException             # waits already
            hold(2, 0, 2) = 26                                          # 4 * 6 / 8 is 3 quarters
            waitFor(2, 0, 3) = throws.IllegalStateException             # has a cart
            waitFor(0, 0, 1) = throws.UnsupportedOperationException
            waitFor(3, 0, 6) = 2
            waitFor(3, 0, 0) = throws.IllegalArgumentException
            """);
    }

    private static void listInOrder() {
        Script.run("promises 20 and 21: the list is gone through in its order", """
            addRow(5, 0, 0) = 0; addNight() = 0; setRate(5) = 2
            join(0) = 1; join(1) = 2; join(2) = 3; join(3) = 4; join(4) = 5; tick(1) = 1
            hold(0, 0, 5) = 50
            waitFor(3, 0, 3) = 1; waitFor(2, 0, 4) = 2; waitFor(1, 0, 2) = 3; waitFor(4, 0, 1) = 4
            tick(1) = 2; cartOf(3) = n
            setPrice(0, 20) = 10; drop(0) = 5; cartOf(3) = n
            tick(1) = 3
            cartOf(3) = h; cartOf(2) = n; cartOf(1) = h; cartOf(4) = n
            pay(3, 0, 1) = 60; pay(1, 0, 1) = 40        # what they cost then
            tick(1) = 4; money() = 100
            leave(4) = true; waitFor(3, 0, 3) = 2; waitFor(1, 0, 3) = 3
            """);
        Script.run("promise 21: who has a cart stays in the list", """
            addRow(6, 0, 0) = 0; addNight() = 0; addNight() = 1
            join(0) = 1; join(1) = 2; tick(1) = 1
            hold(1, 0, 6) = 60; waitFor(0, 0, 6) = 1
            hold(0, 1, 2) = 20; drop(1) = 6
            tick(1) = 2; cartOf(0) = h; stateOf(0, 0, 0) = f; stateOf(1, 0, 2) = h
            drop(0) = 2; hold(1, 1, 1) = 10; pay(1, 0, 1) = 10
            tick(1) = 3; cartOf(0) = h; stateOf(0, 0, 0) = h
            waitFor(0, 0, 6) = throws.IllegalStateException; drop(0) = 6
            """);
        Script.run("promise 21: who would have more than 6 stays in the list", """
            addRow(2, 0, 99) = 0; addRow(6, 0, 0) = 1; addNight() = 0
            join(0) = 1; join(1) = 2; tick(1) = 1
            hold(1, 0, 2) = 20; pay(1, 0, 1) = 20; tick(1) = 2
            hold(1, 0, 4) = 44; waitFor(0, 0, 5) = 1
            give(0, 0, 0, 0) = 1; give(0, 0, 1, 0) = 1; drop(1) = 4
            best(0, 5) = 100; tick(5) = 7; cartOf(0) = n
            waitFor(0, 0, 1) = throws.IllegalStateException
            give(0, 0, 0, 1) = 0; tick(1) = 8; cartOf(0) = h; stateOf(0, 1, 4) = h; isSound() = true
            """);
    }

    private static void listAndLapses() {
        Script.run("promise 21: payments, then lapses, then the list, then the queue", """
            addRow(2, 0, 0) = 0; addNight() = 0
            join(0) = 1; join(1) = 2; join(2) = 3; tick(2) = 2
            hold(0, 0, 2) = 20; tick(3) = 5
            waitFor(1, 0, 2) = 1; waitFor(2, 0, 1) = 2
            tick(6) = 11; cartOf(0) = h; cartOf(1) = n
            tick(1) = 12; cartOf(0) = n; cartOf(1) = h; cartOf(2) = n   # lapses and is held in one tick
            tick(9) = 21; cartOf(1) = h
            tick(1) = 22; cartOf(1) = n; cartOf(2) = h                 # as if held in the tick 12
            tick(9) = 31; cartOf(2) = h; tick(1) = 32; cartOf(2) = n
            """);
        Script.run("promise 21: a payment that comes frees the cart for the list of the same tick", """
            addRow(2, 0, 0) = 0; addNight() = 0; addNight() = 1
            join(0) = 1; join(1) = 2; tick(1) = 1
            hold(1, 0, 2) = 20; waitFor(0, 0, 2) = 1
            hold(0, 1, 2) = 20; pay(0, 0, 1) = 20; drop(1) = 2
            tick(1) = 2; cartOf(0) = h; money() = 20; stateOf(0, 0, 0) = h; stateOf(1, 0, 0) = s
            """);
        Script.run("promise 21: a hold lapses, and its payment comes, in one call", """
            addRow(2, 0, 0) = 0; addNight() = 0; join(0) = 1; tick(1) = 1
            hold(0, 0, 2) = 20; pay(0, 0, 20) = 20
            tick(50) = 51; cartOf(0) = n; money() = 0; stateOf(0, 0, 0) = f
            """);
    }

    private static void ticks() {
        Script.run("promise 21: tick", """
            tick(0) = throws.IllegalArgumentException
            tick(-1) = throws.IllegalArgumentException
            tick(51) = throws.IllegalArgumentException
            tick(1) = 1; tick(50) = 51; tick(2) = 53
            join(0) = 1; join(1) = 2; join(2) = 3; join(3) = 4; join(4) = 5
            tick(2) = 55; place(3) = 0; place(4) = 1
            """);
    }

    /** 512 calls, nearly all of them with the most ticks, while all 20 buyers wait for seats that are never there. */
    private static void longestUse() {
        StringBuilder calls = new StringBuilder("addRow(1, 0, 0) = 0; addNight() = 0; setRate(5) = 2;");
        for (int buyer = 0; buyer < 20; buyer++) {
            calls.append("join(" + buyer + ") = " + (buyer + 1) + ";");
        }
        calls.append("tick(4) = 4;");
        for (int buyer = 0; buyer < 20; buyer++) {
            calls.append("waitFor(" + buyer + ", 0, 2) = " + (buyer + 1) + ";");
        }
        for (int nth = 45; nth <= 510; nth++) {
            calls.append("tick(50) = " + (4 + 50 * (nth - 44)) + ";");
        }
        Script.run("what it is: 512 calls", calls + "hold(19, 0, 1) = 10; isSound() = true");
    }

    private static void giving() {
        Script.run("promise 22: give", """
            give(0, 0, 0, 0) = throws.IndexOutOfBoundsException
            addRow(8, 0, 0) = 0; addNight() = 0; join(0) = 1; join(1) = 2; tick(1) = 1
            give(0, 0, 0, 20) = throws.IndexOutOfBoundsException
            give(0, 0, 0, -1) = throws.IndexOutOfBoundsException
            give(0, 0, 8, 1) = throws.IndexOutOfBoundsException
            give(0, 1, 0, 1) = throws.IndexOutOfBoundsException
            give(1, 0, 0, 1) = throws.IndexOutOfBoundsException
            give(0, 0, 0, 1) = throws.NoSuchElementException
            hold(0, 0, 6) = 60; give(0, 0, 0, 1) = throws.NoSuchElementException
            pay(0, 0, 1) = 60; tick(1) = 2
            give(0, 0, 0, 0) = throws.UnsupportedOperationException
            give(0, 0, 0, 20) = throws.IndexOutOfBoundsException
            give(0, 0, 0, 19) = 0; owner(0, 0, 0) = 19; owner(0, 0, 1) = 0
            give(0, 0, 0, 0) = 19; owner(0, 0, 0) = 0; money() = 60; isSound() = true
            """);
        Script.run("promise 22: the other one would have more than 6, sold and held", """
            addRow(4, 0, 99) = 0; addRow(10, 0, 0) = 1; addNight() = 0; join(0) = 1; join(1) = 2; tick(1) = 1
            hold(0, 0, 4) = 40; pay(0, 0, 1) = 40; tick(1) = 2
            hold(1, 0, 6) = 66
            give(0, 0, 0, 1) = throws.UnsupportedOperationException
            drop(1) = 6; hold(1, 0, 4) = 44
            give(0, 0, 0, 1) = 0; give(0, 0, 1, 1) = 0
            give(0, 0, 2, 1) = throws.UnsupportedOperationException
            owner(0, 0, 2) = 0; owner(0, 0, 1) = 1; isSound() = true
            hold(0, 0, 4) = throws.NoSuchElementException; hold(0, 0, 2) = 22
            """);
    }

    private static void cancelling() {
        Script.run("promise 23: cancel", """
            cancel(0) = throws.IndexOutOfBoundsException
            addRow(6, 0, 0) = 0; addRow(2, 1, 0) = 1; addNight() = 0; addNight() = 1; setRate(5) = 2
            cancel(-1) = throws.IndexOutOfBoundsException
            cancel(2) = throws.IndexOutOfBoundsException
            join(0) = 1; join(1) = 2; join(2) = 3; join(3) = 4; tick(1) = 1
            hold(0, 0, 2) = 20; pay(0, 0, 1) = 20
            hold(3, 1, 6) = 60; pay(3, 0, 1) = 60; tick(1) = 2
            setFree(0, 1, 0, false) = true
            hold(1, 0, 2) = 22; hold(2, 0, 2) = 22; pay(2, 0, 4) = 22
            waitFor(3, 0, 4) = 1; waitFor(0, 1, 4) = 2; money() = 80
            cancel(0) = 20; money() = 60
            cartOf(1) = n; cartOf(2) = w; place(1) = 0
            stateOf(0, 0, 0) = k; stateOf(0, 0, 3) = k; stateOf(0, 0, 5) = k; stateOf(0, 1, 0) = k; stateOf(0, 1, 1) = k
            owner(0, 0, 0) = throws.NoSuchElementException; soldShare(0) = throws.ArithmeticException
            stateOf(1, 0, 0) = s; meanPaid() = 10.0
            waitFor(3, 0, 4) = 2                        # the list of the other night stays
            waitFor(0, 0, 1) = throws.IllegalStateException
            hold(2, 1, 1) = throws.IllegalStateException
            tick(3) = 5; cartOf(2) = w; tick(1) = 6; cartOf(2) = n; money() = 60
            cancel(0) = 0; cancel(1) = 60; money() = 0; isSound() = true
            """);
    }

    private static void cancellingOneOfTwo() {
        Script.run("promise 23: the holds and the list of another night stay", """
            addRow(1, 0, 0) = 0; addRow(1, 0, 9) = 1; addNight() = 0; addNight() = 1; setRate(5) = 2
            join(0) = 1; join(1) = 2; join(2) = 3; join(3) = 4; join(4) = 5; tick(1) = 1
            hold(0, 0, 1) = 10; hold(1, 1, 1) = 10
            waitFor(2, 0, 2) = 1; waitFor(3, 1, 2) = 2; waitFor(4, 1, 3) = 3
            cancel(0) = 0
            cartOf(0) = n; stateOf(0, 1, 0) = k; cartOf(1) = h; stateOf(1, 1, 0) = h
            waitFor(3, 1, 2) = throws.IllegalStateException
            setFree(0, 1, 0, true) = true; hold(2, 0, 1) = 10; drop(2) = 1
            drop(1) = 1; tick(1) = 2; cartOf(2) = n; cartOf(3) = n
            waitFor(0, 1, 2) = 3; waitFor(2, 0, 2) = 4
            """);
        Script.run("promise 21: each one in the list waits for a night", """
            addRow(2, 0, 0) = 0; addNight() = 0; addNight() = 1; setRate(5) = 2
            join(0) = 1; join(1) = 2; join(2) = 3; join(3) = 4; tick(1) = 1
            hold(0, 0, 2) = 20; hold(1, 1, 1) = 10
            waitFor(2, 0, 1) = 1; waitFor(3, 1, 2) = 2
            leave(2) = true; drop(1) = 1
            tick(1) = 2; cartOf(3) = h; stateOf(1, 0, 0) = h
            """);
    }

    private static void cancelledSeatsAgain() {
        Script.run("promise 23: the seats of a cancelled night can be given free again one by one", """
            addRow(3, 0, 0) = 0; addNight() = 0; join(0) = 1; join(1) = 2; tick(1) = 1
            hold(0, 0, 3) = 30; pay(0, 0, 1) = 30; tick(1) = 2; hold(1, 0, 1) = throws.NoSuchElementException
            waitFor(1, 0, 2) = 1; cancel(0) = 30
            setFree(0, 0, 1, false) = false; setFree(0, 0, 1, true) = true; stateOf(0, 0, 1) = f; stateOf(0, 0, 0) = k
            soldShare(0) = 0.0; price(0, 0, 0) = 10
            setFree(0, 0, 0, true) = true
            tick(1) = 3; cartOf(1) = n                  # nobody waits for it
            hold(0, 0, 2) = 20; pay(0, 0, 2) = 20; tick(1) = 4
            cancel(0) = 0; cartOf(0) = w
            setFree(0, 0, 0, true) = true; setFree(0, 0, 1, true) = true
            hold(1, 0, 2) = 20
            tick(1) = 5; cartOf(0) = n; money() = 0; cartOf(1) = h; stateOf(0, 0, 0) = h; isSound() = true
            cancel(0) = 0; cartOf(1) = n; waitFor(1, 0, 1) = 1
            setFree(0, 0, 2, true) = true; tick(1) = 6; cartOf(1) = h
            """);
    }
}
