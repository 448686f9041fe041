import java.util.ArrayList;
import java.util.List;
import java.util.Random;

/** Long runs of calls, the same in each run of the test, on the class and on the Model: each answer is the same. */
public final class ModelTest {
    private static final int RUNS = 4000;
    private static final int CALLS = 330;
    private static final int[] EDGES = {-1, 0, 1, 2, 3, 4, 5, 7, 8, 9, 10, 12, 13, 15, 16, 30, 31, 60, 99, 100,
        Integer.MIN_VALUE, Integer.MAX_VALUE};
    private static final String SIGNS = "glcbmpsd;;;**==0123456789 x";
    private static final String[] CHANGES = {"load", "drive", "drive", "carry", "carry", "carry", "carry", "bone",
        "bones", "mop", "mop", "pay", "pay", "shoe", "days", "order", "house", "carrier"};
    private static final String[] QUERIES = {"houseOf", "carrierOf", "shoeOf", "tires", "canCarry", "mayCarry",
        "bestCarrier", "reach", "isQuiet", "ranked", "carried", "carriedAgain", "faultPosition", "reason", "line",
        "character", "meanArrears", "paidShare", "account"};

    private final Random random;
    private final CoalStairs made = new CoalStairs();
    private final Model model = new Model();
    private final List<String> calls = new ArrayList<>();
    private boolean same = true;

    private ModelTest(int seed) {
        random = new Random(seed);
    }

    public static void main(String[] args) {
        int different = 0;
        for (int run = 0; run < RUNS && different < 5; run++) {
            ModelTest test = new ModelTest(run);
            test.run(run % 4);
            different += test.same ? 0 : 1;
        }
        Check.end();
    }

    private int any(int... numbers) {
        return numbers[random.nextInt(numbers.length)];
    }

    private int upTo(int most) {
        return random.nextInt(most + 1);
    }

    private String call(String name, int... numbers) {
        StringBuilder written = new StringBuilder(name);
        for (int number : numbers) {
            written.append(' ').append(number);
        }
        calls.add(written.toString());
        String due = Calls.answer(model, name, numbers);
        String got = Calls.answer(made, name, numbers);
        if (same && !got.equals(due)) {
            same = false;
            Check.fail(calls + " answered " + got + ", the model " + due);
        }
        return due;
    }

    /** Some runs have few houses and carriers, so that what is full or too much comes soon. */
    private void run(int kind) {
        int houses = kind == 0 ? 0 : kind == 1 ? 2 : 6;
        for (int house = 0; house < houses; house++) {
            call("house", kind == 1 ? 9 * house : upTo(4), upTo(2));
            call("order", house, any(2, 3, 4, 4));
        }
        for (int carrier = 0; carrier < houses && carrier < 3; carrier++) {
            call("carrier", any(1, 5, 9));
        }
        if (kind > 0) {
            call("days", 30);
            call("load", 20);
            call("drive", 1);
        }
        while (calls.size() < CALLS && same) {
            step(kind);
        }
        state();
    }

    private void step(int kind) {
        int choice = random.nextInt(20);
        if (choice < 9) {
            change(CHANGES[random.nextInt(kind == 3 ? 15 : CHANGES.length)]);
        } else if (choice < 17) {
            query(QUERIES[random.nextInt(QUERIES.length)]);
        } else if (choice == 17) {
            call(random.nextInt(4) == 0 ? "save" : random.nextInt(3) == 0 ? "restore" : "undo");
        } else if (choice == 18) {
            wild();
        } else {
            text();
        }
    }

    private void change(String name) {
        switch (name) {
            case "house" -> call(name, upTo(10), upTo(2));
            case "order" -> call(name, upTo(8), upTo(5));
            case "carrier" -> call(name, upTo(10));
            case "load" -> call(name, any(1, 3, 9, 15, 20, 30));
            case "drive" -> call(name, any(0, 0, 1, 2, 3, 4, 6, 8));
            case "carry" -> call(name, upTo(3), 1 + upTo(8));
            case "bone" -> call(name);
            case "bones" -> call(name, any(1, 1, 2, 9));
            case "mop" -> call(name, upTo(3));
            case "pay" -> call(name, upTo(5), any(1, 3, 6, 9, 12, 15, 20));
            case "shoe" -> call(name, upTo(3));
            default -> call(name, any(1, 1, 1, 2, 6, 7, 8));
        }
    }

    private void query(String name) {
        switch (name) {
            case "houseOf" -> call(name, upTo(8), upTo(8));
            case "carrierOf" -> call(name, upTo(4), upTo(4));
            case "shoeOf", "mayCarry" -> call(name, upTo(4));
            case "tires", "canCarry" -> call(name, upTo(4), upTo(8));
            case "bestCarrier", "isQuiet", "ranked" -> call(name, upTo(8));
            case "reason" -> call(name, upTo(3));
            case "account" -> call(name, upTo(16));
            case "line" -> wholeLine(upTo(7));
            case "character" -> call(name, upTo(24));
            default -> call(name);
        }
    }

    private void wholeLine(int house) {
        if (call("line", house).length() < 3) {
            for (int i = 0; i < 24 && !call("character", i).startsWith("Index"); i++) {
                Check.due("the line ends", i < 23 ? 1 : 0, 1);
            }
        }
    }

    /** Any number anywhere. */
    private void wild() {
        String[] names = random.nextBoolean() ? CHANGES : QUERIES;
        String name = names[random.nextInt(names.length)];
        int first = any(EDGES);
        int second = any(EDGES);
        switch (name) {
            case "house", "order", "carry", "pay", "houseOf", "carrierOf", "tires", "canCarry" ->
                call(name, first, second);
            case "bone", "reach", "carried", "carriedAgain", "faultPosition", "meanArrears", "paidShare" -> call(name);
            default -> call(name, first);
        }
    }

    private void text() {
        StringBuilder text = new StringBuilder();
        int many = random.nextInt(8) == 0 ? 30 : 1 + upTo(3);
        for (int i = 0; i < many; i++) {
            text.append(i == 0 ? "" : ";").append(command());
        }
        if (random.nextInt(3) == 0) {
            text.insert(random.nextInt(text.length() + 1), SIGNS.charAt(random.nextInt(SIGNS.length())));
        }
        if (random.nextInt(4) == 0) {
            text.setLength(random.nextInt(text.length() + 1));
        }
        for (int i = 0; i < text.length() && i < 62; i++) {
            call("append", text.charAt(i));
        }
        call("commands");
        call("faultPosition");
        call("reason", 2);
    }

    private String command() {
        return switch (random.nextInt(12)) {
            case 0, 1 -> "g" + upTo(6);
            case 2 -> "l" + any(1, 5, 15, 30, 31);
            case 3, 4, 5 -> "c" + upTo(3) + "*" + upTo(5);
            case 6 -> "b";
            case 7 -> "m" + upTo(3);
            case 8, 9 -> "p" + upTo(5) + "=" + any(1, 3, 6, 10, 99);
            case 10 -> "s" + upTo(4);
            default -> "d" + any(1, 1, 2, 7, 30, 0);
        };
    }

    private void state() {
        for (int what = 0; what < 16; what++) {
            call("account", what);
        }
        for (int house = 0; house < 8; house++) {
            for (int what = 0; what < 8; what++) {
                call("houseOf", house, what);
            }
        }
        for (int carrier = 0; carrier < 4; carrier++) {
            for (int what = 0; what < 4; what++) {
                call("carrierOf", carrier, what);
            }
            call("shoeOf", carrier);
        }
    }
}
