/** Promises 24 and 25: the doors, and what they know. */
public final class DoorTest {
    private static final String SOLD = """
        addRow(6, 0, 0) = 0; addRow(6, 0, 0) = 1; addNight() = 0; addNight() = 1; join(0) = 1; join(1) = 2; tick(1) = 1
        hold(0, 0, 6) = 60; hold(1, 1, 6) = 60; pay(0, 0, 1) = 60; pay(1, 0, 1) = 60; tick(1) = 2
        """;

    public static void main(String[] args) {
        entering();
        connecting();
        withoutLines();
        quarrels();
        afterCancel();
        Script.end();
    }

    private static void entering() {
        Script.run("promise 24: enter, wrong calls", SOLD + """
            enter(2, 0, 0, 0) = throws.IndexOutOfBoundsException
            enter(-1, 0, 1, 0) = throws.IndexOutOfBoundsException
            enter(0, 2, 0, 0) = throws.IndexOutOfBoundsException
            enter(0, -1, 0, 0) = throws.IndexOutOfBoundsException
            enter(0, 0, 2, 0) = throws.IndexOutOfBoundsException
            enter(0, 0, 0, 6) = throws.IndexOutOfBoundsException
            enter(0, 0, 0, -1) = throws.IndexOutOfBoundsException
            enter(0, 0, 1, 0) = throws.UnsupportedOperationException
            hold(0, 1, 1) = 12; stateOf(1, 1, 2) = h
            enter(0, 1, 1, 2) = throws.UnsupportedOperationException
            setFree(0, 1, 0, false) = true; enter(1, 0, 1, 0) = throws.UnsupportedOperationException
            """);
        Script.run("promise 24: enter, both connected", SOLD + """
            enter(0, 0, 0, 0) = true; enter(0, 0, 0, 0) = false; enter(1, 0, 0, 0) = false
            enter(1, 1, 0, 0) = true; enter(0, 1, 0, 0) = false; enter(1, 1, 0, 0) = false
            enter(1, 0, 0, 1) = true; enter(0, 0, 0, 1) = false
            give(0, 0, 0, 5) = 0; enter(0, 0, 0, 0) = false     # the seat counts, not the buyer
            """);
    }

    private static void connecting() {
        Script.run("promise 25: connect, wrong calls and nothing new", SOLD + """
            connect(2, true) = throws.IndexOutOfBoundsException
            connect(-1, false) = throws.IndexOutOfBoundsException
            connect(0, true) = 0; connect(0, false) = 0; connect(0, false) = 0; connect(0, true) = 0; connect(0, true) = 0
            """);
        Script.run("promise 25: a door that is cut off again forgets nothing", SOLD + """
            connect(0, false) = 0; enter(0, 0, 0, 0) = true; enter(1, 0, 0, 1) = true; enter(1, 0, 0, 0) = true
            connect(0, false) = 0
            enter(0, 0, 0, 0) = false; enter(0, 0, 0, 1) = true
            connect(0, true) = 2; connect(0, true) = 0
            connect(0, false) = 0; connect(0, true) = 0         # the quarrels are over
            """);
    }

    private static void withoutLines() {
        Script.run("promise 24: a door without a line knows what it knew", SOLD + """
            enter(0, 0, 0, 0) = true
            connect(1, false) = 0
            enter(1, 0, 0, 0) = false               # it knew
            enter(0, 0, 0, 1) = true; enter(1, 0, 0, 1) = true; enter(1, 0, 0, 1) = false
            enter(1, 0, 0, 2) = true; enter(0, 0, 0, 2) = true
            enter(1, 0, 0, 3) = true
            connect(1, true) = 2
            enter(0, 0, 0, 3) = false; enter(1, 0, 0, 3) = false; enter(1, 0, 0, 1) = false
            enter(1, 0, 0, 4) = true; enter(0, 0, 0, 4) = false
            """);
        Script.run("promise 25: what was known stays known, also when no door is connected", SOLD + """
            enter(0, 0, 0, 0) = true
            connect(0, false) = 0; enter(1, 0, 0, 1) = true; connect(1, false) = 0
            enter(0, 0, 0, 1) = true                # it was gone by then
            enter(1, 0, 0, 1) = false
            connect(0, true) = 1                    # the seat 1 was known
            enter(0, 0, 0, 1) = false; enter(0, 0, 0, 2) = true
            enter(1, 0, 0, 2) = true; connect(1, true) = 1
            enter(1, 0, 0, 2) = false
            """);
    }

    private static void quarrels() {
        Script.run("promise 25: both without a line", SOLD + """
            connect(0, false) = 0; connect(1, false) = 0
            enter(0, 0, 0, 0) = true; enter(1, 0, 0, 0) = true
            enter(0, 1, 0, 0) = true; enter(1, 1, 0, 1) = true
            enter(0, 0, 0, 5) = true; enter(1, 0, 0, 5) = true
            connect(1, true) = 0                    # none was known
            enter(1, 1, 0, 0) = true
            connect(0, true) = 3
            enter(0, 1, 0, 1) = false; enter(1, 1, 0, 0) = false
            """);
        Script.run("promise 24: a seat of each row is its own", """
            addRow(2, 0, 0) = 0; addRow(2, 0, 0) = 1; addNight() = 0; join(0) = 1; join(1) = 2; tick(1) = 1
            hold(0, 0, 2) = 20; hold(1, 0, 2) = 20; pay(0, 0, 1) = 20; pay(1, 0, 1) = 20; tick(1) = 2
            enter(0, 0, 0, 1) = true; enter(0, 0, 1, 0) = true; enter(0, 0, 1, 1) = true; enter(0, 0, 0, 0) = true
            """);
        Script.run("promise 25: a seat of each night is its own", SOLD + """
            connect(0, false) = 0
            enter(0, 0, 0, 0) = true; enter(1, 1, 0, 0) = true
            connect(0, true) = 0
            enter(1, 0, 0, 0) = false; enter(0, 1, 0, 0) = false
            """);
    }

    private static void afterCancel() {
        Script.run("promise 24: what is known of the seats of a cancelled night stays", SOLD + """
            enter(0, 0, 0, 2) = true; connect(1, false) = 0; enter(1, 0, 0, 3) = true
            cancel(0) = 60
            enter(0, 0, 0, 2) = throws.UnsupportedOperationException
            setFree(0, 0, 2, true) = true; setFree(0, 0, 3, true) = true; setFree(0, 0, 4, true) = true
            hold(0, 0, 3) = 30; pay(0, 0, 1) = 30; tick(1) = 3
            enter(0, 0, 0, 2) = false; enter(1, 0, 0, 2) = false
            enter(1, 0, 0, 3) = false; enter(0, 0, 0, 3) = true
            connect(1, true) = 1; enter(1, 0, 0, 4) = true
            """);
    }
}
