/** Promises 26 to 30: owners, money, shares and soundness. */
public final class FigureTest {
    public static void main(String[] args) {
        owners();
        money();
        shares();
        means();
        soundness();
        Script.end();
    }

    private static void owners() {
        Script.run("promise 26: owner", """
            owner(0, 0, 0) = throws.IndexOutOfBoundsException
            addRow(3, 0, 0) = 0; addNight() = 0; addNight() = 1
            owner(-1, 0, 0) = throws.IndexOutOfBoundsException
            owner(2, 0, 0) = throws.IndexOutOfBoundsException
            owner(0, 1, 0) = throws.IndexOutOfBoundsException
            owner(0, 0, 3) = throws.IndexOutOfBoundsException
            owner(0, 0, -1) = throws.IndexOutOfBoundsException
            owner(0, 0, 0) = throws.NoSuchElementException
            join(19) = 1; tick(1) = 1; hold(19, 0, 2) = 20
            owner(0, 0, 0) = throws.NoSuchElementException      # held
            pay(19, 0, 1) = 20; tick(1) = 2
            owner(0, 0, 0) = 19; owner(0, 0, 1) = 19
            owner(0, 0, 2) = throws.NoSuchElementException; owner(1, 0, 0) = throws.NoSuchElementException
            give(0, 0, 1, 3) = 19; owner(0, 0, 1) = 3; owner(0, 0, 0) = 19
            leave(19) = true; owner(0, 0, 0) = 19
            setFree(0, 0, 2, false) = true; owner(0, 0, 2) = throws.NoSuchElementException
            cancel(0) = 20; owner(0, 0, 0) = throws.NoSuchElementException
            """);
    }

    private static void money() {
        Script.run("promise 27: money counts when it comes and seats are sold by it", """
            money() = 0
            addRow(6, 0, 0) = 0; addNight() = 0; addNight() = 1; setPrice(0, 999) = 10
            join(0) = 1; join(1) = 2; tick(1) = 1
            hold(0, 0, 6) = 5994; money() = 0; pay(0, 0, 2) = 5994; money() = 0
            tick(1) = 2; money() = 0; tick(1) = 3; money() = 5994
            hold(1, 1, 6) = 5994; pay(1, 0, 20) = 5994; tick(20) = 23; money() = 5994   # given back
            hold(1, 1, 5) = 4995; pay(1, 0, 10) = 4995; tick(10) = 33; money() = 10989
            cancel(0) = 5994; money() = 4995; cancel(1) = 4995; money() = 0
            """);
    }

    private static void shares() {
        Script.run("promise 28: soldShare", """
            soldShare(0) = throws.IndexOutOfBoundsException
            addNight() = 0; soldShare(0) = throws.ArithmeticException
            addRow(6, 0, 0) = 0; addRow(1, 0, 0) = 1; addNight() = 1
            soldShare(-1) = throws.IndexOutOfBoundsException; soldShare(2) = throws.IndexOutOfBoundsException
            soldShare(1) = 0.0
            join(0) = 1; tick(1) = 1; hold(0, 1, 3) = 30; soldShare(1) = 0.0
            pay(0, 0, 1) = 30; tick(1) = 2; soldShare(1) = 0.42857143
            setFree(1, 1, 0, false) = true; soldShare(1) = 0.5
            hold(0, 1, 2) = 24; soldShare(1) = 0.5; drop(0) = 2
            setFree(1, 0, 5, false) = true; setFree(1, 0, 4, false) = true; setFree(1, 0, 3, false) = true
            soldShare(1) = 1.0
            cancel(1) = 30; soldShare(1) = throws.ArithmeticException
            setFree(1, 0, 0, true) = true; soldShare(1) = 0.0
            """);
    }

    private static void means() {
        Script.run("promise 29: meanPaid", """
            meanPaid() = throws.ArithmeticException
            addRow(6, 0, 0) = 0; addNight() = 0; addNight() = 1; meanPaid() = throws.ArithmeticException
            addCode('a', 10, false) = 0; setPrice(0, 7) = 10
            join(0) = 1; tick(1) = 1; hold(0, 0, 3) = 21
            meanPaid() = throws.ArithmeticException
            pay(0, 1, 1) = 11; tick(1) = 2; meanPaid() = 3.6666666666666665
            hold(0, 1, 4) = 28; pay(0, 0, 1) = 28; tick(1) = 3; meanPaid() = 5.571428571428571
            cancel(0) = 11; meanPaid() = 7.0
            cancel(1) = 28; meanPaid() = throws.ArithmeticException
            """);
        Script.run("promise 29: a seat that cost nothing is sold too", """
            addRow(2, 0, 0) = 0; addNight() = 0; addCode('p', 100, true) = 0
            join(0) = 1; tick(1) = 1; hold(0, 0, 2) = 20; pay(0, 1, 1) = 0; tick(1) = 2
            meanPaid() = 0.0; soldShare(0) = 1.0; owner(0, 0, 0) = 0; cancel(0) = 0
            meanPaid() = throws.ArithmeticException
            """);
    }

    private static void soundness() {
        Script.run("promise 30: isSound", """
            isSound() = true
            addRow(6, 0, 99) = 0; addRow(4, 0, 0) = 1; addNight() = 0; addNight() = 1; isSound() = true
            join(0) = 1; join(1) = 2; join(2) = 3; isSound() = true; tick(1) = 1; isSound() = true
            setPrice(0, 101) = 10; addCode('p', 33, false) = 0
            hold(0, 0, 6) = 606; hold(1, 0, 4) = 404; isSound() = true
            pay(0, 1, 10) = 407; pay(1, 1, 11) = 271; tick(10) = 11; isSound() = true
            cartOf(0) = n; cartOf(1) = w; isSound() = true
            hold(2, 0, 4) = 484; isSound() = true; tick(1) = 12; isSound() = true
            give(0, 0, 0, 5) = 0; isSound() = true; leave(2) = true; isSound() = true
            money() = 407; cancel(0) = 407; isSound() = true; money() = 0
            join(2) = 1; tick(1) = 13; place(2) = 0; isSound() = true
            """);
    }
}
