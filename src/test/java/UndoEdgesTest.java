/** The edges of promises 35 to 37 and of the term of changes: each of the latest 8, snapshots, what stays. */
public final class UndoEdgesTest {
    private static final String NOTHING = "undo throws IllegalStateException";
    private static final String NO_SNAPSHOT = "restore throws IllegalStateException";

    public static void main(String[] args) {
        latestEight();
        successfulCallsAlone();
        wholeStates();
        snapshots();
        Check.end();
    }

    private static void latestEight() {
        Script.run("nothing to undo", NOTHING, "load 1", "undo = 0", NOTHING, "account 4 = 0");
        Script.run("eight changes", "8 times load 1 = 8", "undo = 7", "undo = 6", "undo = 5", "undo = 4", "undo = 3",
            "undo = 2", "undo = 1", "undo = 0", "account 4 = 0", NOTHING);
        Script.run("nine changes", "9 times load 1 = 9", "undo = 7", "account 4 = 8", "7 times undo = 0",
            "account 4 = 1", NOTHING, "account 4 = 1");
        Script.run("thirty changes", "30 times load 1 = 30", "8 times undo = 0", "account 4 = 22", NOTHING);
        Script.run("changes behind an undo", "8 times load 1", "3 times undo = 5", "load 7 = 12", "account 14 = 6",
            "load 7 = 19", "load 7 = 26", "load 1 = 27", "account 14 = 8", "8 times undo = 0", "account 4 = 1",
            NOTHING);
        Script.run("an undo cannot be undone", "load 1", "load 2", "undo = 1", "undo = 0", NOTHING, "account 4 = 0");
        Script.run("many undos, one by one", "load 1", "undo", "load 2", "undo", "load 3", "undo", "load 4", "undo",
            "load 5", "undo", "load 6", "undo", "load 7", "undo", "load 8", "undo", "load 9", "undo", "load 10 = 10",
            "undo = 0", "account 4 = 0", NOTHING);
    }

    /** What is refused, and what is no change, is not counted. */
    private static void successfulCallsAlone() {
        Script.run("refused calls", "load 1", "house 10 0 refused 1 0", "order 0 0 refused 3 0",
            "carrier 0 refused 1 0", "load 0 refused 1 0", "drive 0 refused 4 0", "carry 0 1 refused 3 0",
            "bone refused 7 0", "bones 0 refused 1 0", "mop 0 refused 3 0", "pay 0 1 refused 3 0",
            "shoe 0 refused 19 0", "days 0 refused 1 0", "text l1;d0", "commands refused 1 0 1", "text l1;x",
            "commands throws IllegalArgumentException", "account 14 = 1", "undo = 0", "account 4 = 0", NOTHING);
        Script.run("refused calls when eight are kept", "9 times load 1", "load 99 refused 1 0", "text l1;l1;d0",
            "commands refused 1 0 2", "drive 0 refused 4 0", "8 times undo = 0", "account 4 = 1", NOTHING);
        Script.run("calls that are no changes", "house 0 1", "line 0", "append 100", "save", "reach", "ranked 0",
            "reason 0 throws NoSuchElementException", "account 14 = 1", "undo = 0", "account 15 = 1");
        Script.run("each of the changes", "house 0 1", "order 0 4", "carrier 5", "days 7", "load 9", "drive 1",
            "carry 0 2", "bone", "account 14 = 8", "carry 0 2", "mop 0", "bones 1", "pay 0 1", "drive 0", "shoe 0",
            "text d1", "commands = 1", "account 14 = 8", "undo = 7", "account 0 = 7", "undo = 6", "shoeOf 0 = 1",
            "undo = 5", "account 3 = 1", "undo = 4", "account 10 = 0", "undo = 3", "account 11 = 2", "undo = 2",
            "houseOf 0 5 = 2", "undo = 1", "carrierOf 0 3 = 2", "undo = 0", "houseOf 0 6 = 0", NOTHING);
        Script.run("changes by which nothing is changed", "house 0 0", "order 0 0 = 0", "account 14 = 2", "undo = 1",
            "undo = 0", "account 1 = 0");
    }

    /** All that was there before comes back, also what no single answer tells. */
    private static void wholeStates() {
        Script.run("a bone that is undone", "house 0 1", "drive 1", "bone = 2", "undo", "houseOf 0 6 = 2",
            "line! 0 = 0:0/0z", "bone = 2", "bone refused 14 0");
        Script.run("a day that is undone", "house 0 1", "order 0 4", "carrier 5", "days 7", "load 9", "drive 1",
            "carry 0 2", "bone", "days 1", "houseOf 0 6 = 2", "undo", "houseOf 0 6 = 99", "carrierOf 0 1 = 2",
            "carrierOf 0 2 = 2", "undo", "houseOf 0 6 = 0", "undo", "houseOf 0 6 = 2");
        Script.run("lost shoes that are undone", "8 times house 0 0", "drive 8", "drive 0", "drive 8", "drive 0",
            "drive 8 = 0", "shoeOf 0 = 20", "account 13 = 24", "undo", "shoeOf 0 = 16", "account 13 = 16",
            "account 12 = 4", "drive 3 = 4", "shoeOf 0 = 19");
        Script.run("a house in place of one that is undone is new", "house 9 2", "order 0 4", "days 7", "undo", "undo",
            "undo", "house 0 0 = 0", "houseOf 0 2 = 0", "days 7 = 0", "houseOf 0 6 = 99", "line! 0 = 0:0/0");
        Script.run("a carrier in place of one that is undone is new", "house 0 0", "order 0 4", "days 7", "load 4",
            "drive 1", "carrier 9", "carry 0 4 = 4", "undo", "undo", "carrier 1 = 0", "carrierOf 0 1 = 0",
            "carrierOf 0 2 = 0", "carrierOf 0 3 = 0", "carried = 0");
        Script.run("a carrier above others that is undone", "house 3 1", "carrier 2", "order 0 1", "carrier 3",
            "undo = 3", "account 2 = 1", "houseOf 0 0 = 3", "houseOf 0 1 = 1", "houseOf 0 2 = 1", "carrierOf 0 0 = 2");
        Script.run("a house above others that is undone", "house 3 1", "order 0 2", "house 4 2", "undo = 2",
            "account 1 = 1", "houseOf 0 0 = 3", "houseOf 0 2 = 2");
        Script.run("an order that is undone", "house 3 1", "order 0 2", "order 0 4 = 2", "undo = 2", "houseOf 0 2 = 2",
            "houseOf 0 0 = 3", "order 0 1 = 2");
        Script.run("a house and a carrier that come back", "house 3 2", "carrier 7", "save", "2 times undo",
            "house 5 1", "carrier 4", "restore", "houseOf 0 0 = 3", "houseOf 0 1 = 2", "carrierOf 0 0 = 7");
        Script.run("the cart at a house that is undone", "drive 1 refused 3 1", "house 0 0", "drive 1", "undo",
            "account 3 = 0", "undo", "account 1 = 0", "reach = 0");
    }

    private static void snapshots() {
        Script.run("no snapshot", NO_SNAPSHOT, "days 1", "undo", NO_SNAPSHOT, "account 0 = 0");
        Script.run("a snapshot of a new object", "save = 0", "house 0 0", "days 30", "restore = 0", "account 1 = 0",
            "account 0 = 0", NOTHING);
        Script.run("the day", "days 30", "save = 30", "days 1", "save = 31", "days 1", "restore = 31",
            NOTHING, "account 0 = 31");
        Script.run("in place of an earlier snapshot", "load 1", "save", "load 1", "save", "load 1", "restore",
            "account 4 = 2", "restore", "account 4 = 2");
        Script.run("the snapshot is kept", "load 1", "save", "load 1", "restore", "account 4 = 1", "load 2",
            "undo = 0", "account 4 = 1", "load 3", "restore", "account 4 = 1", NOTHING);
        Script.run("restore cannot be undone", "load 1", "save", "load 1", "restore", NOTHING, "account 4 = 1");
        Script.run("restore at once", "load 1", "save", "account 14 = 1", "restore", "account 14 = 0", NOTHING);
        Script.run("save is no change", "load 1", "save", "load 1", "undo = 1", "undo = 0", "account 4 = 0", "restore",
            "account 4 = 1");
        Script.run("undo of many changes leaves the snapshot", "8 times load 1", "save", "8 times undo",
            "12 times load 2", "restore = 0", "account 4 = 8", "account 5 = 92");
        Script.run("what stays when it is restored", "house 0 1", "save", "line 0", "shoe 9 refused 3 9", "text x",
            "commands throws IllegalArgumentException", "text d1;d", "restore", "character 5 = z", "reason 0 = 3",
            "reason 1 = 9", "faultPosition = 0", "account 15 = 4", "append 50 = 5", "commands = 2", "account 0 = 3");
        Script.run("what stays when it is undone", "house 0 1", "line 0", "shoe 9 refused 3 9", "text d1x",
            "commands throws IllegalArgumentException", "text d1;d", "undo", "character 5 = z", "reason 1 = 9",
            "faultPosition = 2", "account 15 = 4", "append 50 = 5", "commands = 2", "account 0 = 3");
    }
}
