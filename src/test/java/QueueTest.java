/** Promises 11 to 15: who waits, who is in, the draw and the rate. */
public final class QueueTest {
    public static void main(String[] args) {
        joining();
        leaving();
        leavingWithCart();
        drawing();
        rates();
        places();
        Script.end();
    }

    private static void joining() {
        Script.run("promise 11: join", """
            join(20) = throws.IndexOutOfBoundsException
            join(-1) = throws.IndexOutOfBoundsException
            join(2147483647) = throws.IndexOutOfBoundsException
            join(5) = 1; join(19) = 2; join(0) = 3
            join(5) = throws.IllegalStateException      # waits
            tick(1) = 1
            join(5) = throws.IllegalStateException      # is in
            join(0) = throws.IllegalStateException
            join(7) = 2; place(0) = 1; place(7) = 2; place(5) = 0
            """);
        Script.run("promise 11: all join", """
            setRate(0) = 2
            join(0) = 1; join(1) = 2; join(2) = 3; join(3) = 4; join(4) = 5; join(5) = 6; join(6) = 7
            join(7) = 8; join(8) = 9; join(9) = 10; join(10) = 11; join(11) = 12; join(12) = 13; join(13) = 14
            join(14) = 15; join(15) = 16; join(16) = 17; join(17) = 18; join(18) = 19; join(19) = 20
            join(19) = throws.IllegalStateException; join(20) = throws.IndexOutOfBoundsException
            tick(50) = 50; place(19) = 20; place(0) = 1
            setRate(5) = 0; tick(3) = 53; place(14) = 0; place(15) = 1; place(19) = 5
            tick(2) = 55; place(19) = 0
            """);
    }

    private static void leaving() {
        Script.run("promise 12: leave", """
            leave(20) = throws.IndexOutOfBoundsException
            leave(-1) = throws.IndexOutOfBoundsException
            leave(0) = false
            join(0) = 1; join(1) = 2; join(2) = 3; join(3) = 4
            leave(1) = true; leave(1) = false
            place(0) = 1; place(2) = 2; place(3) = 3; place(1) = throws.NoSuchElementException
            join(1) = 4                                 # stands last
            place(1) = 4
            tick(1) = 1; place(0) = 0; place(2) = 0; place(3) = 1
            leave(0) = true; leave(0) = false; place(0) = throws.NoSuchElementException
            join(0) = 3; place(0) = 3
            """);
    }

    private static void leavingWithCart() {
        Script.run("promise 12: leave gives a hold up, but not a payment on its way", """
            addRow(4, 0, 0) = 0; addNight() = 0
            join(0) = 1; join(1) = 2; join(2) = 3; join(3) = 4; tick(2) = 2
            hold(0, 0, 2) = 20; hold(1, 0, 2) = 20
            waitFor(2, 0, 2) = 1; waitFor(3, 0, 1) = 2
            leave(2) = true                             # waits in the list no more
            leave(0) = true; cartOf(0) = n; stateOf(0, 0, 0) = f; stateOf(0, 0, 1) = f
            pay(1, 0, 3) = 20; leave(1) = true; cartOf(1) = w; stateOf(0, 0, 2) = f
            leave(1) = false; cartOf(1) = w
            tick(1) = 3; cartOf(3) = h; cartOf(2) = n
            join(1) = 1; join(2) = 2; tick(1) = 4
            place(1) = 0; hold(1, 0, 1) = throws.IllegalStateException
            waitFor(1, 0, 4) = throws.IllegalStateException
            tick(1) = 5; cartOf(1) = n; money() = 0
            hold(1, 0, 1) = 10; waitFor(2, 0, 4) = 1
            """);
    }

    private static void drawing() {
        Script.run("promise 13: draw, wrong numbers and few who wait", """
            draw(-1) = throws.IllegalArgumentException
            draw(-2147483648) = throws.IllegalArgumentException
            draw(0) = -1; draw(2147483647) = -1
            join(7) = 1; draw(5) = 7; place(7) = 1
            tick(1) = 1; draw(5) = -1; place(7) = 0
            """);
        Script.run("promise 13: draw, the order by hand", """
            setRate(0) = 2
            join(0) = 1; join(1) = 2; join(2) = 3
            # seed 0: z = 12345, 12345 / 65536 = 0, place 2 with 0: 2 1 0
            # z = 12345 * 1103515245 + 12345 mod 2147483648 = 1406932606, / 65536 = 21468, mod 2 = 0: 1 2 0
            draw(0) = 1; place(1) = 1; place(2) = 2; place(0) = 3
            """);
        Script.run("promise 13: draw, with a great seed", """
            setRate(0) = 2
            join(10) = 1; join(11) = 2
            # z = 2147483647 * 1103515245 + 12345 mod 2147483648 = 1043980748, / 65536 = 15929, mod 2 = 1
            draw(2147483647) = 10; place(10) = 1; place(11) = 2
            # z = 12345, / 65536 = 0
            draw(0) = 11; place(11) = 1; place(10) = 2
            """);
    }

    private static void rates() {
        Script.run("promise 14: setRate", """
            setRate(-1) = throws.IllegalArgumentException
            setRate(6) = throws.IllegalArgumentException
            setRate(0) = 2; setRate(5) = 0; setRate(1) = 5
            join(0) = 1; join(1) = 2; join(2) = 3; join(3) = 4
            tick(1) = 1; place(0) = 0; place(1) = 1
            setRate(0) = 1; tick(50) = 51; place(1) = 1
            setRate(3) = 0; tick(1) = 52; place(3) = 0
            """);
    }

    private static void places() {
        Script.run("promise 15: place", """
            place(20) = throws.IndexOutOfBoundsException
            place(-1) = throws.IndexOutOfBoundsException
            place(0) = throws.NoSuchElementException
            place(19) = throws.NoSuchElementException
            join(19) = 1; join(18) = 2; join(17) = 3
            place(19) = 1; place(18) = 2; place(17) = 3; place(0) = throws.NoSuchElementException
            tick(1) = 1; place(19) = 0; place(18) = 0; place(17) = 1
            """);
    }
}
