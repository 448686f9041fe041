import java.util.NoSuchElementException;

/** Long runs of calls, the same in each run of the test: what must hold whatever was called. */
public final class RandomRunsTest {
    private static final int RUNS = 3000;
    private static final int CALLS = 60;
    private static final int[][] REASONS = {{1, 2}, {3, 1}, {1, 2}, {1, 6, 8, 2}, {3, 4, 5},
        {3, 1, 7, 8, 9, 10, 11, 12, 13}, {7, 14, 15}, {1, 16}, {3, 7, 18, 13}, {3, 1, 17}, {3, 6, 19, 16}, {1}};
    private static final String[] SIGNS = {"g", "l", "c", "b", "m", "p", "s", "d", ";", "*", "=", "0", "1", "2", "3", "9"};

    private long seed;

    private RandomRunsTest(long seed) {
        this.seed = seed * 7919 + 17;
    }

    public static void main(String[] args) {
        for (int run = 0; run < RUNS; run++) {
            try {
                new RandomRunsTest(run).changes(run);
                new RandomRunsTest(run).texts();
                new RandomRunsTest(run).wild();
            } catch (RuntimeException e) {
                Check.fail("run " + run + " threw " + e);
            }
        }
        Check.end();
    }

    private int next(int bound) {
        seed = seed * 6364136223846793005L + 1442695040888963407L;
        return (int) ((seed >>> 33) % bound);
    }

    /** The change number kind of the face, in the order of the promises 2 to 13; -1 if it was refused. */
    private static int change(CoalStairs x, int[] call) {
        try {
            switch (call[0]) {
                case 0: return x.house(call[1], call[2]);
                case 1: return x.order(call[1], call[2]);
                case 2: return x.carrier(call[1]);
                case 3: return x.load(call[1]);
                case 4: return x.drive(call[1]);
                case 5: return x.carry(call[1], call[2]);
                case 6: return x.bone();
                case 7: return x.bones(call[1]);
                case 8: return x.mop(call[1]);
                case 9: return x.pay(call[1], call[2]);
                case 10: return x.shoe(call[1]);
                default: return x.days(call[1]);
            }
        } catch (UnsupportedOperationException e) {
            return -1;
        }
    }

    private int[] call() {
        switch (next(16)) {
            case 0: return new int[] {0, next(11) - 1, next(4)};
            case 1: return new int[] {1, next(9) - 1, next(6)};
            case 2: return new int[] {2, next(11), 0};
            case 3: return new int[] {3, next(32), 0};
            case 4: case 5: return new int[] {4, next(10) - 1, 0};
            case 6: case 7: case 8: return new int[] {5, next(5), next(6)};
            case 9: return new int[] {6, 0, 0};
            case 10: return new int[] {7, next(11), 0};
            case 11: return new int[] {8, next(5), 0};
            case 12: case 13: return new int[] {9, next(9), next(20)};
            case 14: return new int[] {10, next(5), 0};
            default: return new int[] {11, next(10), 0};
        }
    }

    private static CoalStairs replayed(int[][] calls, int count) {
        CoalStairs x = new CoalStairs();
        for (int i = 0; i < count; i++) {
            change(x, calls[i]);
        }
        return x;
    }

    private void changes(int run) {
        int[][] calls = new int[CALLS][];
        for (int i = 0; i < CALLS; i++) {
            calls[i] = i < 6 ? new int[][] {{0, 3, 1}, {0, 0, 2}, {0, 9, 0}, {2, 5, 0}, {2, 1, 0}, {2, 9, 0}}[i] : call();
        }
        CoalStairs x = replayed(calls, CALLS - 1);
        String before = State.undoable(x);
        int answer = change(x, calls[CALLS - 1]);
        if (answer < 0) {
            Check.due("run " + run + ": a refused call changes nothing", State.undoable(x), before);
            Check.due("run " + run + ": its reason", isOneOf(x.reason(0), REASONS[calls[CALLS - 1][0]]), 1);
            Check.due("run " + run + ": its index", x.reason(2), 0);
        } else {
            x.undo();
            Check.due("run " + run + ": undo", State.undoable(x), before);
        }
        x = replayed(calls, CALLS);
        invariants(run, x);
        for (int carrier = 0; carrier < x.account(2); carrier++) {
            int may = x.mayCarry(carrier);
            for (int sacks = 1; sacks <= 9; sacks++) {
                boolean done = change(replayed(calls, CALLS), new int[] {5, carrier, sacks}) >= 0;
                Check.due("run " + run + ": mayCarry " + carrier + " of " + sacks, done ? 1 : 0, sacks <= may ? 1 : 0);
            }
        }
    }

    private static int isOneOf(int number, int[] numbers) {
        for (int other : numbers) {
            if (other == number) {
                return 1;
            }
        }
        return 0;
    }

    private static void invariants(int run, CoalStairs x) {
        String name = "run " + run + ": ";
        Check.due(name + "carried twice", x.carriedAgain(), x.carried());
        Check.due(name + "all sacks", x.account(4) + x.account(5) + x.carried(), 100);
        for (int house = 0; house < x.account(1); house++) {
            Check.due(name + "isQuiet", x.isQuiet(house) ? 1 : 0, x.houseOf(house, 6) > 0 ? 1 : 0);
            if (house > 0) {
                int upper = x.ranked(house - 1);
                int lower = x.ranked(house);
                int upperKey = x.houseOf(upper, 4) * 100000 + x.houseOf(upper, 3) * 100 - upper;
                int lowerKey = x.houseOf(lower, 4) * 100000 + x.houseOf(lower, 3) * 100 - lower;
                Check.due(name + "ranked", upperKey > lowerKey ? 1 : 0, 1);
            }
            best(name, x, house);
        }
    }

    private static void best(String name, CoalStairs x, int house) {
        int best = -1;
        int bestKey = 0;
        for (int carrier = 0; carrier < x.account(2); carrier++) {
            int key = x.canCarry(carrier, house) * 100 - x.carrierOf(carrier, 2);
            if (x.canCarry(carrier, house) > 0 && (best < 0 || key > bestKey)) {
                best = carrier;
                bestKey = key;
            }
        }
        int got = -1;
        try {
            got = x.bestCarrier(house);
        } catch (NoSuchElementException e) {
            Check.due(name + "nobody", best, -1);
        }
        Check.due(name + "bestCarrier", got, best);
    }

    /** A text is a prefix of one without a fault just if its fault position is its length. */
    private void texts() {
        StringBuilder text = new StringBuilder();
        int length = next(14);
        for (int i = 0; i < length; i++) {
            text.append(SIGNS[next(SIGNS.length)]);
        }
        String commands = "(g\\d|l\\d\\d?|c\\d\\*\\d|b|m\\d|p\\d=\\d\\d?|s\\d|d\\d\\d?)";
        boolean sound = text.toString().matches(commands + "(;" + commands + ")*");
        CoalStairs x = new CoalStairs();
        Check.append(x, text.toString());
        boolean fault = false;
        try {
            x.commands();
        } catch (UnsupportedOperationException e) {
            Check.due("the buffer", x.account(15), 0);
        } catch (IllegalArgumentException e) {
            fault = true;
        }
        Check.due("fault of " + text, fault ? 0 : 1, sound ? 1 : 0);
        Check.due("fault position of " + text, x.faultPosition(), sound ? -1 : faultPosition(text.toString()));
    }

    /** The length of the longest part from the beginning that some ending makes a text without a fault. */
    private static int faultPosition(String text) {
        String[] endings = {"", "b", "1", "*1", "=1"};
        String commands = "(g\\d|l\\d\\d?|c\\d\\*\\d|b|m\\d|p\\d=\\d\\d?|s\\d|d\\d\\d?)";
        for (int length = text.length(); length >= 0; length--) {
            for (String ending : endings) {
                for (String last : new String[] {"", "*1", "=1"}) {
                    String whole = text.substring(0, length) + ending + last;
                    if (whole.matches(commands + "(;" + commands + ")*")) {
                        return length;
                    }
                }
            }
        }
        return -1;
    }

    private int wildNumber() {
        int[] numbers = {0, 1, 2, 3, 4, 7, 8, 9, -1, 30, 99, Integer.MAX_VALUE, Integer.MIN_VALUE};
        return numbers[next(numbers.length)];
    }

    /** Any call with any number throws only what the face names. */
    private void wild() {
        CoalStairs x = new CoalStairs();
        for (int i = 0; i < 150; i++) {
            int kind = next(40);
            if (kind < 12) {
                change(x, new int[] {kind, wildNumber(), wildNumber()});
            } else if (kind < 24) {
                change(x, call());
            } else {
                query(x, kind);
            }
        }
        Check.due("carried twice", x.carriedAgain(), x.carried());
    }

    private void query(CoalStairs x, int kind) {
        int first = wildNumber();
        int second = wildNumber();
        Class<?> thrown = null;
        try {
            switch (kind) {
                case 24: x.houseOf(first, second); break;
                case 25: x.carrierOf(first, second); break;
                case 26: x.shoeOf(first); break;
                case 27: x.tires(first, second); break;
                case 28: x.canCarry(first, second); break;
                case 29: x.mayCarry(first); break;
                case 30: x.bestCarrier(first); break;
                case 31: x.isQuiet(first); break;
                case 32: x.ranked(first); break;
                case 33: x.append((char) first); break;
                case 34: x.reason(first); break;
                case 35: x.line(first); break;
                case 36: x.character(first); break;
                case 37: x.undo(); break;
                case 38: x.restore(); break;
                default: x.save(); break;
            }
        } catch (RuntimeException e) {
            thrown = e.getClass();
        }
        if (thrown == null || thrown == IndexOutOfBoundsException.class && kind != 32 && kind != 34 && kind != 37
            || thrown == NoSuchElementException.class && (kind == 30 || kind == 32 || kind == 34)
            || thrown == IllegalArgumentException.class && (kind == 24 || kind == 25 || kind == 34)
            || thrown == IllegalStateException.class && (kind == 33 || kind == 37 || kind == 38)) {
            return;
        }
        Check.fail("query " + kind + " with " + first + " and " + second + " threw " + thrown);
    }
}
