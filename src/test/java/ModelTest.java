import java.util.ArrayList;
import java.util.List;
import java.util.Map;
import java.util.Random;
import java.util.TreeMap;

/** All promises: long runs of drawn calls on the class and on the model, whose answers are to be the same. */
public final class ModelTest {
    private static final int RUNS = 1500;
    private static final int CALLS = 512;
    private static final String[] METHODS = {
        "addRow", "addNight", "setPrice", "setFree", "addCode", "cost", "price", "stateOf", "best", "join", "leave",
        "draw", "setRate", "place", "hold", "drop", "pay", "cartOf", "waitFor", "tick", "give", "cancel", "enter",
        "connect", "owner", "money", "soldShare", "meanPaid", "isSound"};
    private static final int[] WEIGHTS = {
        2, 1, 3, 6, 2, 3, 3, 4, 6, 12, 2, 2, 1, 3, 30, 2, 24, 5, 10, 30, 12, 1, 30, 8, 5, 3, 2, 2, 4};
    private static final Map<String, Integer> seen = new TreeMap<>();

    private final Random random;
    /** Half of the runs are in small halls, where seats run out. */
    private final boolean isSmall;
    /** A cancelled night stays empty for long, so most runs have none. */
    private final boolean hasCancels;
    private final List<Integer> rowSeats = new ArrayList<>();
    private final List<Integer> nightRows = new ArrayList<>();
    private int codes;
    private String lastHolder = "0";

    private ModelTest(int seed) {
        random = new Random(seed);
        isSmall = seed % 2 == 0;
        hasCancels = seed % 3 == 0;
    }

    public static void main(String[] args) {
        for (int run = 0; run < RUNS; run++) {
            if (!new ModelTest(run).isSame(run)) {
                break;
            }
        }
        checkSeen();
        Script.end();
    }

    /** A third house is spared the calls that throw: as these change nothing, it answers the same too. */
    private boolean isSame(int run) {
        Script house = new Script("run " + run, new Seatrush());
        Script spared = new Script("spared run " + run, new Seatrush());
        Script model = new Script("model " + run, new Model());
        StringBuilder past = new StringBuilder();
        for (int nth = 0; nth < CALLS; nth++) {
            String call = nth < 12 ? opening(nth) : drawn();
            String want = model.answer(call);
            String got = house.answer(call);
            String other = want.startsWith("throws.") ? want : spared.answer(call);
            learn(call, want);
            past.append(call).append(" = ").append(want).append('\n');
            note(call, want);
            if (nth == CALLS - 1 || nth % 64 == 63) {
                got += wholeState(house);
                other += wholeState(spared);
                want += wholeState(model);
            }
            if (!got.equals(want) || !other.equals(want)) {
                Script.fault(past + "but " + got + ", without what throws " + other);
                return false;
            }
        }
        return true;
    }

    /** What no call asks for by chance is asked now and then. */
    private String wholeState(Script script) {
        StringBuilder all = new StringBuilder();
        for (int night = 0; night < nightRows.size(); night++) {
            for (int row = 0; row < nightRows.get(night); row++) {
                for (int seat = 0; seat < rowSeats.get(row); seat++) {
                    String at = "(" + night + ", " + row + ", " + seat + ")";
                    all.append(' ').append(script.answer("stateOf" + at)).append(script.answer("owner" + at));
                }
            }
        }
        for (int buyer = 0; buyer < 20; buyer++) {
            all.append(' ').append(script.answer("cartOf(" + buyer + ")")).append(script.answer("place(" + buyer + ")"));
        }
        return all.append(' ').append(script.answer("money()")).append(script.answer("isSound()")).toString();
    }

    private void learn(String call, String answer) {
        if (answer.startsWith("throws.")) {
            return;
        }
        if (call.startsWith("addRow")) {
            rowSeats.add(Integer.valueOf(call.substring(call.indexOf('(') + 1, call.indexOf(','))));
        } else if (call.startsWith("addNight")) {
            nightRows.add(rowSeats.size());
        } else if (call.startsWith("addCode")) {
            codes++;
        } else if (call.startsWith("hold")) {
            lastHolder = call.substring(call.indexOf('(') + 1, call.indexOf(','));
        }
    }

    private String opening(int nth) {
        if (nth < 4) {
            return call("addRow");
        }
        if (nth == 4 || nth == 5) {
            return "addNight()";
        }
        return nth == 11 ? "tick(4)" : "join(" + random.nextInt(8) + ")";
    }

    private String drawn() {
        int all = 0;
        for (int weight : WEIGHTS) {
            all += weight;
        }
        int left = random.nextInt(all);
        int at = 0;
        while (left >= WEIGHTS[at]) {
            left -= WEIGHTS[at++];
        }
        return METHODS[at].equals("cancel") && !hasCancels ? call("tick") : call(METHODS[at]);
    }

    private String call(String method) {
        return method + "(" + switch (method) {
            case "addRow" -> number(1, isSmall ? 4 : 10) + ", " + number(0, 2) + ", " + number(0, 99);
            case "setPrice" -> number(0, 2) + ", " + number(1, 999);
            case "setFree" -> seat() + ", " + (random.nextInt(3) > 0);
            case "addCode" -> (random.nextInt(20) == 0 ? "'x'" : random.nextBoolean() ? "'p'" : "'a'")
                    + ", " + number(1, random.nextBoolean() ? 100 : 999) + ", " + (random.nextInt(3) == 0);
            case "cost" -> number(0, random.nextBoolean() ? 200 : 99999) + ", " + number(0, 15);
            case "price", "stateOf", "owner" -> seat();
            case "best" -> night() + ", " + number(1, 6);
            case "join", "leave", "place", "drop", "cartOf" -> buyer();
            case "draw" -> String.valueOf(random.nextInt());
            case "setRate" -> number(0, 5);
            case "hold", "waitFor" -> buyer() + ", " + night() + ", " + number(1, random.nextBoolean() ? 3 : 6);
            case "pay" -> (random.nextBoolean() ? lastHolder : buyer()) + ", " + number(0, (1 << codes) - 1)
                    + ", " + number(1, random.nextBoolean() ? 3 : 20);
            case "tick" -> number(1, random.nextInt(30) == 0 ? 50 : 2);
            case "give" -> seat() + ", " + buyer();
            case "cancel", "soldShare" -> night();
            case "enter" -> number(0, 1) + ", " + seat();
            case "connect" -> number(0, 1) + ", " + random.nextBoolean();
            default -> "";
        } + ")";
    }

    private String night() {
        return random.nextBoolean() ? "0" : number(0, Math.max(0, nightRows.size() - 1));
    }

    private String seat() {
        int night = nightRows.isEmpty() ? 0 : random.nextInt(nightRows.size());
        if (random.nextInt(8) == 0 || nightRows.isEmpty() || nightRows.get(night) == 0) {
            return number(0, 2) + ", " + number(0, 7) + ", " + number(0, 9);
        }
        int row = random.nextInt(nightRows.get(night));
        return night + ", " + row + ", " + random.nextInt(rowSeats.get(row));
    }

    private String buyer() {
        return random.nextInt(10) > 0 ? number(0, 7) : number(0, 19);
    }

    /** Mostly a number in the range, sometimes at its edge, beside it, or far away. */
    private String number(int least, int most) {
        return String.valueOf(switch (random.nextInt(60)) {
            case 0 -> least - 1;
            case 1 -> most + 1;
            case 2 -> random.nextInt();
            case 3 -> least;
            case 4 -> most;
            default -> least + random.nextInt(most - least + 1);
        });
    }

    private static void note(String call, String answer) {
        String method = call.substring(0, call.indexOf('('));
        seen.merge(method + " " + (answer.startsWith("throws.") ? answer : "answers"), 1, Integer::sum);
        if (method.equals("cartOf") || method.equals("stateOf") || method.equals("enter")) {
            seen.merge(method + " " + answer, 1, Integer::sum);
        }
        if (method.equals("connect") && !answer.startsWith("throws.") && !answer.equals("0")) {
            seen.merge("connect quarrels", 1, Integer::sum);
        }
    }

    /** The runs are worth little if they never come to the cases that matter. */
    private static void checkSeen() {
        String[] wanted = {
            "hold answers", "hold throws.UnsupportedOperationException", "hold throws.NoSuchElementException",
            "hold throws.IllegalStateException", "waitFor answers", "waitFor throws.UnsupportedOperationException",
            "waitFor throws.IllegalStateException", "pay answers", "pay throws.IllegalStateException",
            "give answers", "give throws.UnsupportedOperationException", "give throws.NoSuchElementException",
            "cartOf n", "cartOf h", "cartOf p", "cartOf w", "stateOf f", "stateOf h", "stateOf s", "stateOf k",
            "enter true", "enter false", "connect quarrels", "drop answers", "soldShare throws.ArithmeticException",
            "setFree throws.UnsupportedOperationException", "owner answers", "meanPaid answers"};
        for (String it : wanted) {
            if (seen.getOrDefault(it, 0) < 20) {
                Script.fault("the runs came to '" + it + "' only " + seen.getOrDefault(it, 0) + " times");
            }
        }
    }
}
