/** The edges of promises 14, 15, 23 to 25 and 32 to 34: numbers, ranks, sacks, means, shares and accounts. */
public final class AnswerEdgesTest {
    private static final String NO_INDEX = " throws IndexOutOfBoundsException";
    private static final String WRONG = " throws IllegalArgumentException";
    private static final String[] DOOR = {"house 3 0", "order 0 4", "carrier 5", "carrier 9", "days 30", "days 5",
        "load 30", "drive 1"};

    public static void main(String[] args) {
        housesAndCarriers();
        ranks();
        sacks();
        means();
        shares();
        accounts();
        Check.end();
    }

    private static void then(String name, String[] first, String... rows) {
        Script.run(name, Script.joined(first, rows));
    }

    /** Promises 14 and 15; no such house is looked at ahead of no such number. */
    private static void housesAndCarriers() {
        for (String call : new String[] {"houseOf ", "carrierOf "}) {
            int most = call.equals("houseOf ") ? 7 : 3;
            then(call, DOOR, call + "0 0 = " + (most == 7 ? 3 : 5), call + "0 " + most + " = 0", call + "0 -1" + WRONG,
                call + "0 " + (most + 1) + WRONG, call + "0 2147483647" + WRONG, call + "0 -2147483648" + WRONG,
                call + "-1 0" + NO_INDEX, call + "2 0" + NO_INDEX, call + "2147483647 0" + NO_INDEX,
                call + "-2147483648 0" + NO_INDEX, call + "-1 -1" + NO_INDEX, call + "2 " + (most + 1) + NO_INDEX);
        }
        Script.run("the eighth house and the fourth carrier", "8 times house 9 0", "4 times carrier 9",
            "houseOf 7 0 = 9", "carrierOf 3 0 = 9", "houseOf 8 0" + NO_INDEX, "carrierOf 4 0" + NO_INDEX);
        Script.run("a house and a carrier that are undone", "house 1 0", "carrier 1", "undo", "undo",
            "houseOf 0 0" + NO_INDEX, "carrierOf 0 0" + NO_INDEX);
        then("sacks so far stay over days", DOOR, "carry 0 4", "houseOf 0 7 = 4", "carrierOf 0 3 = 4", "days 30",
            "carry 1 2", "houseOf 0 7 = 6", "carrierOf 0 3 = 4", "carrierOf 1 3 = 2");
        Script.run("what the dogs let", "house 0 0", "house 0 1", "house 0 2", "houseOf 0 6 = 99", "houseOf 1 6 = 2",
            "houseOf 2 6 = 0");
    }

    /** Promise 23: arrears, sacks due, the lowest; no such rank. */
    private static void ranks() {
        String none = " throws NoSuchElementException";
        Script.run("no houses", "ranked 0" + none, "ranked -1" + none, "ranked 2147483647" + none);
        Script.run("one house", "house 0 0", "ranked 0 = 0", "ranked 1" + none, "ranked -1" + none,
            "ranked -2147483648" + none);
        Script.run("all alike", "8 times house 0 0", "ranked 0 = 0", "ranked 3 = 3", "ranked 7 = 7",
            "ranked 8" + none);
        Script.run("by sacks due", "4 times house 0 0", "order 1 1", "order 2 2", "order 3 1", "days 7",
            "ranked 0 = 2", "ranked 1 = 1", "ranked 2 = 3", "ranked 3 = 0");
        Script.run("arrears ahead of sacks due", "2 times house 0 0", "order 0 4", "order 1 1", "carrier 9", "days 7",
            "load 1", "drive 2", "ranked 0 = 0", "carry 0 1", "ranked 0 = 1", "pay 1 2", "ranked 0 = 1", "pay 1 1",
            "ranked 0 = 0", "ranked 1 = 1");
    }

    /** Promises 24 and 25. */
    private static void sacks() {
        Script.run("none", "house 0 0", "carrier 5", "carried = 0", "carriedAgain = 0");
        then("one", DOOR, "carry 0 1", "carried = 1", "carriedAgain = 1", "pay 0 1", "carriedAgain = 1", "pay 0 1",
            "carriedAgain = 1", "pay 0 1", "carriedAgain = 1", "carried = 1", "undo", "undo", "undo", "undo",
            "carried = 0", "carriedAgain = 0");
        then("carriers together", DOOR, "carry 0 2", "carry 1 3", "carried = 5", "carriedAgain = 5");
        then("all four carriers", DOOR, "2 times carrier 9", "carry 3 1", "carry 2 1", "carry 1 1", "carry 0 1",
            "carried = 4", "carriedAgain = 4");
        then("a refused carry", DOOR, "carry 0 2", "carry 0 10 refused 1 0", "carried = 2", "carriedAgain = 2");
    }

    /** Promise 32, "if there are none". */
    private static void means() {
        String none = "meanArrears throws ArithmeticException";
        Script.run("no houses", none, "carrier 5", none, "house 0 0", "meanArrears = 0.0", "undo", none);
        then("one house", DOOR, "carry 0 1", "meanArrears = 3.0", "house 0 0", "meanArrears = 1.5", "house 0 0",
            "meanArrears = 1.0", "pay 0 1", "meanArrears = " + 2f / 3f, "pay 0 2", "meanArrears = 0.0");
        then("eight houses", DOOR, "7 times house 0 0", "carry 0 9", "meanArrears = " + 27f / 8f);
    }

    /** Promise 33, "if no sack was carried up". */
    private static void shares() {
        String none = "paidShare throws ArithmeticException";
        Script.run("no houses", none, "house 0 0", "carrier 5", none);
        then("none, some and all paid", DOOR, none, "carry 0 1", "paidShare = 0.0", "pay 0 1",
            "paidShare = " + 1.0 / 3.0, "pay 0 2", "paidShare = 1.0", "carry 0 2", "paidShare = " + 3.0 / 9.0, "undo",
            "paidShare = 1.0", "undo", "undo", "paidShare = 0.0", "undo", none);
        then("a refused carry", DOOR, "carry 0 10 refused 1 0", none);
    }

    /** Promise 34. */
    private static void accounts() {
        then("such accounts", DOOR, "account -1" + WRONG, "account 16" + WRONG, "account 2147483647" + WRONG,
            "account -2147483648" + WRONG, "account 0 = 35", "account 15 = 0");
        then("the fewest shoes and the most places", new String[] {"8 times house 0 0"}, "account 12 = 4", "drive 8",
            "drive 0", "drive 8", "drive 0", "account 12 = 4", "drive 4 = 0", "account 12 = 0", "account 13 = 20",
            "drive 0", "account 13 = 20");
        Script.run("the changes that can be undone", "account 14 = 0", "8 times load 1", "account 14 = 8", "load 1",
            "account 14 = 8", "load 0 refused 1 0", "account 14 = 8", "undo = 7", "account 14 = 7", "save",
            "account 14 = 7", "restore", "account 14 = 0");
        Script.run("the characters", "account 15 = 0", "60 times append 49 = 60", "account 15 = 60", "days 1",
            "account 15 = 60", "undo", "account 15 = 60", "commands throws IllegalArgumentException",
            "account 15 = 0");
        then("sums over all houses", new String[] {"8 times house 0 0"}, "order 0 1", "order 7 4", "carrier 9",
            "days 7", "account 6 = 5", "load 5", "drive 1", "carry 0 1", "drive 8", "carry 0 4", "account 6 = 0",
            "account 7 = 15", "account 8 = 3", "account 4 = 0", "account 5 = 95");
    }
}
