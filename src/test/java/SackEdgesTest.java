/** The edges of promises 7 to 11, 17 to 20 and 22, and of the terms of the carriers, the dogs and the houses. */
public final class SackEdgesTest {
    /** A house without flights and dog at the cart, 20 sacks due, 30 on the cart, carriers of the strengths 5 and 1. */
    private static final String[] DOOR = atDoor(0, 0);
    /** The carrier 0 is tired by 29; at the house 1, where the cart is, are no footprints and no arrears. */
    private static final String[] TIRED_BY_29 = {"house 9 0", "house 0 0", "order 0 4", "order 1 4", "carrier 1",
        "carrier 9", "days 30", "days 5 = 40", "load 30", "drive 1", "carry 0 2 = 20", "drive 2", "carry 0 9 = 29",
        "houseOf 1 5 = 18", "pay 1 27 = 0", "mop 1 = 18", "carrierOf 1 1 = 9"};

    public static void main(String[] args) {
        carriesOutOfRange();
        carriesWithoutEnough();
        arrears();
        footprints();
        dogs();
        tired();
        bonesGiven();
        bonesBought();
        mops();
        pays();
        tires();
        canCarry();
        mayCarry();
        best();
        quiet();
        Check.end();
    }

    private static String[] atDoor(int flights, int dog) {
        return new String[] {"house " + flights + " " + dog, "order 0 4", "carrier 5", "carrier 1", "days 30",
            "days 5 = 20", "load 30", "drive 1"};
    }

    private static void then(String name, String[] first, String... rows) {
        Script.run(name, Script.joined(first, rows));
    }

    /** Promise 7, "1 to 9", and the reasons 3, 1 and 7. */
    private static void carriesOutOfRange() {
        then("the least and the most", DOOR, "carry 1 1 = 1", "carry 0 9 = 9", "carrierOf 0 3 = 9", "account 4 = 20");
        then("out of range", DOOR, "carry 0 0 refused 1 0", "carry 0 10 refused 1 0", "carry 0 -1 refused 1 0",
            "carry 0 2147483647 refused 1 0", "carry 0 -2147483648 refused 1 0", "account 4 = 30");
        then("no such carrier, ahead of the range", DOOR, "carry 2 0 refused 3 2", "carry -1 10 refused 3 -1",
            "carry 4 1 refused 3 4", "carry 2147483647 1 refused 3 2147483647",
            "carry -2147483648 0 refused 3 -2147483648");
        then("in the yard, behind the range", DOOR, "drive 0", "carry 0 0 refused 1 0", "carry 0 10 refused 1 0",
            "carry 2 1 refused 3 2", "carry 0 1 refused 7 0", "carry 0 9 refused 7 0");
        Script.run("the fourth carrier", "house 0 0", "order 0 4", "4 times carrier 9", "days 7", "load 4", "drive 1",
            "carry 3 4 = 4", "carry 4 1 refused 3 4", "carrierOf 3 3 = 4", "carrierOf 0 3 = 0");
    }

    /** The reasons 8 and 9: sacks on the cart and sacks due, one too many and just as many. */
    private static void carriesWithoutEnough() {
        Script.run("the last sacks of the cart", "house 0 0", "order 0 4", "carrier 5", "days 14 = 8", "load 3",
            "drive 1", "carry 0 4 refused 8 3", "carry 0 3 = 3", "account 4 = 0", "carry 0 1 refused 8 0",
            "carry 0 6 refused 8 0");
        Script.run("the last sacks due", "house 0 0", "order 0 4", "carrier 5", "days 7 = 4", "load 30", "drive 1",
            "carry 0 5 refused 9 4", "carry 0 4 = 4", "houseOf 0 3 = 0", "carry 0 1 refused 9 0", "days 7 = 4",
            "carry 0 1 = 1");
        Script.run("too few on the cart, ahead of too few due", "house 0 0", "order 0 2", "carrier 5", "days 7 = 2",
            "load 3", "drive 1", "carry 0 4 refused 8 3", "carry 0 3 refused 9 2", "carry 0 2 = 2");
        then("fewer due, ahead of arrears", DOOR, "carry 0 9", "pay 0 27", "mop 1", "carry 0 9",
            "carry 0 3 refused 9 2", "carry 0 2 refused 10 27");
    }

    /** "Only if its arrears are not more than 12 coins", looked at once, ahead of the first sack. */
    private static void arrears() {
        then("12 and 15", DOOR, "carry 0 4 = 4", "houseOf 0 4 = 12", "carry 0 1 = 5", "houseOf 0 4 = 15",
            "carry 0 1 refused 10 15");
        then("12 and 13", DOOR, "carry 0 5", "pay 0 2 = 13", "carry 1 1 refused 10 13", "pay 0 1 = 12",
            "carry 1 1 = 1");
        then("nine sacks from 12", DOOR, "carry 0 4", "carry 1 9 = 9", "houseOf 0 4 = 39", "carry 0 1 refused 10 39");
        then("arrears, ahead of footprints", DOOR, "carry 0 8", "houseOf 0 5 = 9", "carry 0 1 refused 10 24",
            "pay 0 12 = 12", "carry 0 1 refused 11 9");
        then("days do not matter", DOOR, "carry 0 5", "days 1", "carry 0 1 refused 10 15");
    }

    /** "A third of how black the carrier is then"; "black up to 9"; "only if it has not more than 8 footprints". */
    private static void footprints() {
        int[] ofFresh = {0, 0, 1, 2, 3, 5, 7, 9, 12};
        for (int sacks = 1; sacks <= 9; sacks++) {
            then("footprints of " + sacks, DOOR, "carry 0 " + sacks, "houseOf 0 5 = " + ofFresh[sacks - 1],
                "carrierOf 0 2 = " + sacks, "account 8 = " + ofFresh[sacks - 1]);
        }
        then("8 and 9", DOOR, "carry 0 7", "pay 0 21", "houseOf 0 5 = 7", "carry 1 3 = 3", "houseOf 0 5 = 8",
            "carry 1 1 = 4", "houseOf 0 5 = 9", "carry 1 1 refused 11 9", "mop 1 = 9", "carry 1 1");
        then("nine sacks from 8", DOOR, "carry 0 7", "pay 0 21", "carry 1 3", "pay 0 9", "carry 0 9 = 16",
            "houseOf 0 5 = 34", "carrierOf 0 2 = 9");
        then("black by 9 stays so", DOOR, "carry 0 9", "carrierOf 0 2 = 9", "pay 0 27", "mop 1 = 12", "carry 0 1",
            "carrierOf 0 2 = 9", "houseOf 0 5 = 3", "carry 0 2", "houseOf 0 5 = 9");
        then("footprints, ahead of the dog", atDoor(0, 2), "bone", "carry 0 8", "pay 0 24", "days 1",
            "carry 1 1 refused 11 9", "mop 1", "carry 1 1 refused 12 0");
    }

    /** "A sleepy dog lets 2 sacks be carried in a day by all carriers together"; a fierce one none; a bone all. */
    private static void dogs() {
        then("sleepy, at once", atDoor(0, 1), "carry 0 3 refused 12 2", "carry 0 2 = 2", "carry 0 1 refused 12 0",
            "carry 1 1 refused 12 0", "carry 1 9 refused 12 0", "houseOf 0 6 = 0");
        then("sleepy, one by one", atDoor(0, 1), "carry 0 1", "houseOf 0 6 = 1", "carry 1 2 refused 12 1", "carry 1 1",
            "carry 1 1 refused 12 0");
        then("sleepy, the next day", atDoor(0, 1), "carry 0 2", "days 1", "houseOf 0 6 = 2", "carry 0 3 refused 12 2",
            "carry 0 2", "carry 0 1 refused 12 0");
        then("sleepy, a bone", atDoor(0, 1), "carry 0 2", "carry 1 2 refused 12 0", "bone = 2", "houseOf 0 6 = 99",
            "carry 1 9 = 9", "days 1", "houseOf 0 6 = 2");
        then("fierce", atDoor(0, 2), "carry 0 1 refused 12 0", "carry 0 9 refused 12 0", "houseOf 0 6 = 0", "bone = 2",
            "carry 0 9 = 9", "houseOf 0 6 = 99", "days 1", "houseOf 0 6 = 0");
        then("the dog, ahead of the tiredness", atDoor(9, 1), "carry 1 4 refused 12 2", "bone",
            "carry 1 4 refused 13 40", "carry 1 3 = 30");
        then("none", DOOR, "carry 0 9", "houseOf 0 6 = 99");
    }

    /** "A carrier carries sacks only if not tired by more than 30 then." */
    private static void tired() {
        then("just 30, at once", atDoor(9, 0), "carry 0 6 refused 13 36", "carry 0 5 = 30", "pay 0 15",
            "carry 0 1 refused 13 36", "carry 0 9 refused 13 84");
        then("just 30, the weakest", atDoor(9, 0), "carry 1 4 refused 13 40", "carry 1 9 refused 13 90",
            "carry 1 3 = 30", "carry 1 1 refused 13 40");
        then("30 and 31", TIRED_BY_29, "carry 0 2 refused 13 31", "carry 0 1 = 30", "carry 0 1 refused 13 31",
            "carrierOf 0 1 = 30", "days 1", "carrierOf 0 1 = 22", "carry 0 1 = 23");
        then("a refused carrier is as before", TIRED_BY_29, "carry 0 2 refused 13 31", "carrierOf 0 1 = 29",
            "carrierOf 0 2 = 9", "houseOf 1 3 = 11", "houseOf 1 4 = 0", "houseOf 1 5 = 0", "account 4 = 19");
    }

    /** Promise 8, the reasons 7, 14 and 15, "there are 3 bones at first". */
    private static void bonesGiven() {
        String[] threeDogs = {"house 0 0", "house 0 1", "house 0 2", "house 0 1", "house 0 2"};
        then("the last bone", threeDogs, "drive 2", "bone = 2", "drive 3", "bone = 1", "drive 4", "bone = 0",
            "drive 5", "bone refused 15 0", "account 11 = 0", "bones 1 = 1", "bone = 0");
        then("no dog, ahead of no bone", threeDogs, "drive 2", "bone", "drive 3", "bone", "drive 4", "bone = 0",
            "bone refused 14 3", "drive 1", "bone refused 14 0", "drive 0", "bone refused 7 0");
        then("it has a bone until the day is over", threeDogs, "drive 2", "bone = 2", "bone refused 14 1", "days 1",
            "bone = 1", "bone refused 14 1");
        then("in the yard", threeDogs, "bone refused 7 0", "drive 1", "bone refused 14 0", "account 11 = 3");
        then("no coin is taken", threeDogs, "drive 2", "bone", "account 9 = 20");
    }

    /** Promise 9, "how many, 1 to 9", "a bone costs a coin". */
    private static void bonesBought() {
        Script.run("the least and the most", "bones 1 = 4", "bones 9 = 13", "bones 0 refused 1 0",
            "bones 10 refused 1 0", "bones -1 refused 1 0", "bones 2147483647 refused 1 0",
            "bones -2147483648 refused 1 0", "account 9 = 10");
        Script.run("the last coins", "bones 9", "bones 9", "bones 3 refused 16 1", "bones 9 refused 16 7",
            "bones 2 = 23", "account 9 = 0", "bones 1 refused 16 1", "bones 9 refused 16 9", "bones 10 refused 1 0",
            "bones 0 refused 1 0", "account 11 = 23");
    }

    /** Promise 10, the reasons 3, 7, 18 and 13, "by half of them, rounded up". */
    private static void mops() {
        int[] prints = {1, 2, 3, 5, 7, 9, 12};
        int[] tires = {1, 1, 2, 3, 4, 5, 6};
        for (int i = 0; i < prints.length; i++) {
            then("mop " + prints[i], DOOR, "carry 0 " + (i + 3), "mop 1 = " + prints[i], "carrierOf 1 1 = " + tires[i],
                "carrierOf 1 2 = 0", "houseOf 0 5 = 0", "mop 1 refused 18 0");
        }
        then("no footprints", DOOR, "mop 0 refused 18 0", "carry 0 2", "mop 0 refused 18 0", "carry 0 1", "mop 0 = 1");
        then("such carriers", DOOR, "carry 0 3", "mop 2 refused 3 2", "mop -1 refused 3 -1",
            "mop 2147483647 refused 3 2147483647", "mop -2147483648 refused 3 -2147483648", "drive 0",
            "mop 2 refused 3 2", "mop 0 refused 7 0", "account 8 = 1");
        then("no footprints, ahead of the tiredness", TIRED_BY_29, "mop 0 refused 18 1");
        then("just 30, for one", TIRED_BY_29, "carry 1 3 = 12", "houseOf 1 5 = 1", "mop 0 = 1", "carrierOf 0 1 = 30");
        then("just 30, for two", TIRED_BY_29, "carry 1 4", "houseOf 1 5 = 2", "mop 0 = 2", "carrierOf 0 1 = 30");
        then("31", TIRED_BY_29, "carry 1 5", "houseOf 1 5 = 3", "mop 0 refused 13 31", "carrierOf 0 1 = 29",
            "mop 1 = 3", "carrierOf 1 1 = 16");
        then("past the dog, whatever the arrears", atDoor(0, 2), "bone", "carry 0 9", "days 1", "mop 0 = 12",
            "houseOf 0 5 = 0", "houseOf 0 4 = 27");
    }

    /** Promise 11, "how many coins, 1 to 99", the reasons 3, 1 and 17. */
    private static void pays() {
        String[] owing = Script.joined(DOOR, "carry 0 9");
        then("the least and all", owing, "pay 0 1 = 26", "pay 0 26 = 0", "account 9 = 47", "account 10 = 27",
            "pay 0 1 refused 17 0");
        then("one coin too many", owing, "pay 0 28 refused 17 27", "pay 0 99 refused 17 27", "pay 0 27 = 0");
        then("out of range", owing, "pay 0 0 refused 1 0", "pay 0 100 refused 1 0", "pay 0 -1 refused 1 0",
            "pay 0 2147483647 refused 1 0", "pay 0 -2147483648 refused 1 0", "account 10 = 0");
        then("no such house, ahead of the range", owing, "pay 1 0 refused 3 1", "pay -1 100 refused 3 -1",
            "pay 8 1 refused 3 8", "pay 2147483647 1 refused 3 2147483647", "pay -2147483648 1 refused 3 -2147483648");
        then("wherever the cart is", owing, "drive 0", "pay 0 27 = 0");
        then("the highest arrears", DOOR, "carry 0 4", "carry 1 9", "houseOf 0 4 = 39", "pay 0 40 refused 17 39",
            "pay 0 39 = 0");
    }

    /** Promise 17: all flights and all strengths; divided, rounded down. */
    private static void tires() {
        for (int flights = 0; flights <= 9; flights++) {
            for (int strength = 1; strength <= 9; strength++) {
                int due = 1;
                for (int rest = 6 * flights; rest >= 5 + strength; rest -= 5 + strength) {
                    due++;
                }
                Script.run("tires", "house " + flights + " 2", "carrier " + strength, "tires 0 0 = " + due,
                    "canCarry 0 0 = " + 30 / due);
            }
        }
        String[] few = {"house 1 0", "house 1 0", "carrier 1"};
        for (String call : new String[] {"tires ", "canCarry "}) {
            String none = " throws IndexOutOfBoundsException";
            then(call, few, call + "0 1 = " + (call.equals("tires ") ? 2 : 15), call + "1 0" + none,
                call + "0 2" + none, call + "-1 0" + none, call + "0 -1" + none, call + "-1 -1" + none,
                call + "2147483647 0" + none, call + "0 2147483647" + none, call + "-2147483648 0" + none,
                call + "0 -2147483648" + none);
        }
    }

    /** Promise 18, "can be more than 9", "whatever else there is". */
    private static void canCarry() {
        then("all 30", DOOR, "canCarry 0 0 = 30", "carry 0 9", "canCarry 0 0 = 21", "canCarry 1 0 = 30");
        then("whatever else there is", new String[] {"house 0 2", "carrier 5"}, "canCarry 0 0 = 30");
        then("none", atDoor(9, 0), "carry 1 3 = 30", "canCarry 1 0 = 0", "canCarry 0 0 = 5");
        then("just one and less than one", TIRED_BY_29, "canCarry 0 1 = 1", "canCarry 0 0 = 0", "carry 0 1 = 30",
            "canCarry 0 1 = 0");
        then("a part is left", atDoor(9, 0), "carry 0 1 = 6", "canCarry 0 0 = 4", "carry 0 3 = 24", "canCarry 0 0 = 1",
            "carry 0 1 = 30", "canCarry 0 0 = 0");
    }

    /** Promise 19, "9 at most", "0 in the yard", and each of the reasons. */
    private static void mayCarry() {
        then("9 at most", DOOR, "mayCarry 0 = 9", "drive 0", "mayCarry 0 = 0", "mayCarry 1 = 0");
        then("such carriers", DOOR, "mayCarry 2 throws IndexOutOfBoundsException",
            "mayCarry -1 throws IndexOutOfBoundsException", "mayCarry 2147483647 throws IndexOutOfBoundsException",
            "mayCarry -2147483648 throws IndexOutOfBoundsException", "drive 0",
            "mayCarry 2 throws IndexOutOfBoundsException");
        Script.run("on the cart", "house 0 0", "order 0 4", "carrier 5", "days 14", "load 8", "drive 1",
            "mayCarry 0 = 8", "carry 0 4", "mayCarry 0 = 4", "carry 0 4", "mayCarry 0 = 0");
        Script.run("due", "house 0 0", "order 0 4", "carrier 5", "load 30", "drive 1", "mayCarry 0 = 0", "days 7",
            "mayCarry 0 = 4", "days 7", "mayCarry 0 = 8", "days 7", "mayCarry 0 = 9");
        then("arrears", DOOR, "carry 0 4", "mayCarry 0 = 9", "carry 0 1", "mayCarry 0 = 0", "pay 0 2",
            "mayCarry 0 = 0", "pay 0 1", "mayCarry 0 = 9");
        then("footprints", DOOR, "carry 0 7", "pay 0 21", "mayCarry 1 = 9", "carry 1 3", "mayCarry 1 = 9", "carry 1 1",
            "houseOf 0 5 = 9", "mayCarry 1 = 0", "mop 1", "mayCarry 1 = 9");
        then("a sleepy dog", atDoor(0, 1), "mayCarry 0 = 2", "carry 1 1", "mayCarry 0 = 1", "carry 1 1",
            "mayCarry 0 = 0", "bone", "mayCarry 0 = 9", "days 1", "mayCarry 0 = 2");
        then("a fierce dog", atDoor(0, 2), "mayCarry 0 = 0", "bone", "mayCarry 0 = 9", "days 1", "mayCarry 0 = 0");
        then("tired", TIRED_BY_29, "mayCarry 0 = 1", "carry 0 1", "mayCarry 0 = 0", "mayCarry 1 = 9");
    }

    /** Promise 20: most sacks, least black, lowest; nobody. */
    private static void best() {
        Script.run("without a carrier", "house 0 0", "bestCarrier 0 throws NoSuchElementException",
            "bestCarrier 1 throws IndexOutOfBoundsException", "bestCarrier -1 throws IndexOutOfBoundsException",
            "bestCarrier 2147483647 throws IndexOutOfBoundsException",
            "bestCarrier -2147483648 throws IndexOutOfBoundsException");
        Script.run("the fourth carrier", "house 9 0", "3 times carrier 1", "carrier 9", "bestCarrier 0 = 3");
        Script.run("all alike", "house 9 0", "4 times carrier 1", "bestCarrier 0 = 0");
        then("nobody any more", atDoor(9, 0), "bestCarrier 0 = 0", "carry 0 4 = 24", "bestCarrier 0 = 1",
            "carry 1 2 = 20", "bestCarrier 0 = 1", "pay 0 18", "carry 1 1 = 30", "bestCarrier 0 = 0", "carry 0 1 = 30",
            "bestCarrier 0 throws NoSuchElementException", "days 1", "bestCarrier 0 = 0");
        String[] alike = {"house 9 2", "house 0 0", "order 1 4", "3 times carrier 5", "days 7", "load 9", "drive 2"};
        then("the least black", alike, "carry 0 2", "carry 1 1", "bestCarrier 1 = 2", "bestCarrier 0 = 2", "carry 2 1",
            "bestCarrier 1 = 1", "bestCarrier 0 = 1");
        then("the lowest", alike, "carry 1 1", "carry 2 1", "carry 0 1", "bestCarrier 0 = 0");
        then("most sacks, though blacker", alike, "carrier 9", "carry 3 1", "canCarry 3 0 = 7", "bestCarrier 0 = 3");
    }

    /** Promise 22: whether one sack is let. */
    private static void quiet() {
        then("sleepy", atDoor(0, 1), "isQuiet 0 = true", "carry 0 1", "isQuiet 0 = true", "carry 0 1",
            "isQuiet 0 = false", "bone", "isQuiet 0 = true", "days 1", "isQuiet 0 = true");
        then("fierce", atDoor(0, 2), "isQuiet 0 = false", "bone", "isQuiet 0 = true", "days 1", "isQuiet 0 = false");
        then("none", DOOR, "isQuiet 0 = true", "carry 0 9", "isQuiet 0 = true",
            "isQuiet 1 throws IndexOutOfBoundsException", "isQuiet -1 throws IndexOutOfBoundsException",
            "isQuiet 2147483647 throws IndexOutOfBoundsException",
            "isQuiet -2147483648 throws IndexOutOfBoundsException");
        Script.run("wherever the cart is", "house 0 2", "house 0 1", "isQuiet 0 = false", "isQuiet 1 = true");
    }
}
