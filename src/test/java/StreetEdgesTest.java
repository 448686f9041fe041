/** The edges of promises 1 to 6, 12, 13, 16 and 21, and of the terms of the street, the cart, the horse and the days. */
public final class StreetEdgesTest {
    private static final String[] FOUR_HOUSES = {"4 times house 1 0"};
    private static final String[] WORN_BY_16 = Script.joined(FOUR_HOUSES, "drive 4", "drive 0", "drive 4", "drive 0",
        "drive 4", "drive 0", "drive 4", "drive 0 = 4");
    private static final String[] LOST = Script.joined(WORN_BY_16, "drive 4", "drive 0 = 0");
    /** 16 sacks are left in the yard, where the cart is, with 12 sacks. */
    private static final String[] SIXTEEN_LEFT = {"3 times carrier 9", "8 times house 0 0", "order 0 4", "order 1 4",
        "order 2 4", "order 3 4", "order 4 4", "order 5 4", "order 6 4", "order 7 4", "days 30 = 128", "days 5 = 160",
        "load 30", "drive 1", "carry 0 9", "drive 2", "carry 0 9", "drive 3", "carry 0 9 = 27", "drive 0",
        "load 27 = 30", "drive 4", "carry 1 9", "drive 5", "carry 1 9", "drive 6", "carry 1 9", "drive 0",
        "load 27 = 30", "drive 7", "carry 2 9", "drive 8", "carry 2 9 = 18", "drive 0 = 4"};

    public static void main(String[] args) {
        nothing();
        houses();
        orders();
        carriers();
        loads();
        places();
        shoesWorn();
        fewShoes();
        newShoes();
        reach();
        days();
        weeks();
        Check.end();
    }

    private static void then(String name, String[] first, String... rows) {
        Script.run(name, Script.joined(first, rows));
    }

    /** Promise 1: without houses and carriers; each change there is refused or has little to do. */
    private static void nothing() {
        Script.run("a new object refuses", "order 0 0 refused 3 0", "drive 0 refused 4 0", "drive 1 refused 3 1",
            "carry 0 1 refused 3 0", "bone refused 7 0", "mop 0 refused 3 0", "pay 0 1 refused 3 0",
            "shoe 0 refused 19 0", "days 0 refused 1 0", "account 14 = 0");
        Script.run("a new object answers", "houseOf 0 0 throws IndexOutOfBoundsException",
            "carrierOf 0 0 throws IndexOutOfBoundsException", "shoeOf 0 = 0", "shoeOf 3 = 0",
            "tires 0 0 throws IndexOutOfBoundsException", "canCarry 0 0 throws IndexOutOfBoundsException",
            "mayCarry 0 throws IndexOutOfBoundsException", "bestCarrier 0 throws IndexOutOfBoundsException",
            "isQuiet 0 throws IndexOutOfBoundsException", "line 0 throws IndexOutOfBoundsException",
            "ranked 0 throws NoSuchElementException", "reach = 0", "carried = 0", "carriedAgain = 0");
        Script.run("a new object does", "load 30 = 30", "bones 9 = 12", "days 30 = 0", "account 5 = 70",
            "account 9 = 11", "account 0 = 30");
        Script.run("days of 511 calls", "511 times days 30 = 0", "account 0 = 15330");
    }

    /** Promise 2 and "at most 8 houses, each with 0 to 9 flights, with a dog that is 0, 1, or 2". */
    private static void houses() {
        Script.run("the fewest and the most flights", "house 0 0 = 0", "house 9 0 = 1", "houseOf 0 0 = 0",
            "houseOf 1 0 = 9", "house -1 0 refused 1 0", "house 10 0 refused 1 0", "house 2147483647 0 refused 1 0",
            "house -2147483648 0 refused 1 0", "house 0 0 = 2");
        Script.run("each dog", "house 0 0 = 0", "house 0 1 = 1", "house 0 2 = 2", "houseOf 0 1 = 0", "houseOf 1 1 = 1",
            "houseOf 2 1 = 2", "house 0 -1 refused 1 0", "house 0 3 refused 1 0", "house 0 2147483647 refused 1 0",
            "house 0 -2147483648 refused 1 0", "house -1 3 refused 1 0", "account 1 = 3");
        Script.run("the eighth and the ninth house", "7 times house 1 0", "house 2 1 = 7", "house 1 0 refused 2 8",
            "house 10 0 refused 1 0", "house 0 3 refused 1 0", "account 1 = 8", "drive 8 = 4");
        Script.run("a full street that has room again", "8 times house 1 0", "house 1 0 refused 2 8", "undo = 7",
            "house 9 2 = 7", "houseOf 7 0 = 9", "houseOf 7 1 = 2", "house 1 0 refused 2 8");
        Script.run("a new house has nothing", "house 9 1", "houseOf 0 2 = 0", "houseOf 0 3 = 0", "houseOf 0 4 = 0",
            "houseOf 0 5 = 0", "houseOf 0 6 = 2", "houseOf 0 7 = 0", "days 7 = 0");
    }

    /** Promise 3 and "a weekly order of 0 to 4 sacks". */
    private static void orders() {
        Script.run("the least and the most", "house 1 0", "order 0 4 = 0", "order 0 0 = 4", "order 0 0 = 0",
            "order 0 5 refused 1 0", "order 0 -1 refused 1 0", "order 0 2147483647 refused 1 0",
            "order 0 -2147483648 refused 1 0", "houseOf 0 2 = 0");
        Script.run("the lowest and the highest house", "8 times house 1 0", "order 0 1 = 0", "order 7 3 = 0",
            "order -1 1 refused 3 -1", "order 8 1 refused 3 8", "order 2147483647 1 refused 3 2147483647",
            "order -2147483648 1 refused 3 -2147483648", "houseOf 0 2 = 1", "houseOf 7 2 = 3");
        Script.run("no such house, ahead of the range", "house 1 0", "order 1 5 refused 3 1",
            "order -1 -1 refused 3 -1");
        Script.run("a refused order leaves the one before", "house 1 0", "order 0 3 = 0", "order 0 5 refused 1 0",
            "order 0 2 = 3");
    }

    /** Promise 4 and "at most 4 carriers, each with a strength from 1 to 9". */
    private static void carriers() {
        Script.run("the least and the most", "carrier 1 = 0", "carrier 9 = 1", "carrierOf 0 0 = 1",
            "carrierOf 1 0 = 9", "carrier 0 refused 1 0", "carrier 10 refused 1 0", "carrier -1 refused 1 0",
            "carrier 2147483647 refused 1 0", "carrier -2147483648 refused 1 0", "carrier 5 = 2");
        Script.run("the fourth and the fifth", "3 times carrier 5", "carrier 5 = 3", "carrier 5 refused 2 4",
            "carrier 0 refused 1 0", "carrier 10 refused 1 0", "account 2 = 4");
        Script.run("room again", "4 times carrier 5", "carrier 5 refused 2 4", "undo = 3", "carrier 7 = 3",
            "carrierOf 3 0 = 7", "carrier 5 refused 2 4");
    }

    /** Promise 5, "0 to 30 sacks" and "in the yard are 100 sacks at first". */
    private static void loads() {
        Script.run("the least and the most", "load 1 = 1", "load 29 = 30", "load 0 refused 1 0", "load 31 refused 1 0",
            "load -1 refused 1 0", "load 2147483647 refused 1 0", "load -2147483648 refused 1 0", "account 5 = 70");
        Script.run("a full cart", "load 30 = 30", "load 1 refused 2 30", "load 30 refused 2 30", "account 4 = 30");
        Script.run("a cart that would be too full by one", "load 25 = 25", "load 6 refused 2 30", "load 5 = 30");
        then("the cart elsewhere", FOUR_HOUSES, "drive 4", "load 1 refused 6 4", "load 31 refused 1 0",
            "load 0 refused 1 0", "drive 1", "load 1 refused 6 1", "drive 0", "load 1 = 1");
        then("the yard becomes empty", SIXTEEN_LEFT, "account 4 = 12", "account 5 = 16", "load 17 refused 8 16",
            "load 16 = 28", "account 5 = 0", "load 1 refused 8 0", "load 3 refused 8 0", "load 31 refused 1 0",
            "drive 1", "load 1 refused 6 1");
        then("the yard, ahead of the cart", SIXTEEN_LEFT, "load 19 refused 8 16", "load 30 refused 8 16",
            "load 10 = 22", "load 9 refused 8 6", "load 6 = 28");
        then("the last sacks of the yard fill the cart", SIXTEEN_LEFT, "load 8 = 20", "load 8 = 28", "undo", "undo",
            "account 5 = 16");
    }

    /** Promise 6, "the place, 0 or that of a house". */
    private static void places() {
        then("the lowest and the highest place", FOUR_HOUSES, "drive 4 = 4", "account 3 = 4", "drive 0 = 4",
            "account 3 = 0", "drive -1 refused 3 -1", "drive 5 refused 3 5", "drive 8 refused 3 8",
            "drive 2147483647 refused 3 2147483647", "drive -2147483648 refused 3 -2147483648");
        then("the cart is there", FOUR_HOUSES, "drive 0 refused 4 0", "drive 4", "drive 4 refused 4 4", "drive 3",
            "drive 3 refused 4 3", "account 13 = 4");
        Script.run("no house at all", "drive 1 refused 3 1", "drive 0 refused 4 0");
        Script.run("the place of a house that is undone", "house 1 0", "undo", "drive 1 refused 3 1");
        then("no such place, ahead of too few shoes", LOST, "drive 5 refused 3 5", "drive 0 refused 4 0",
            "drive 1 refused 5 0");
        Script.run("the eighth place", "8 times house 0 0", "drive 8 = 4", "shoeOf 0 = 8", "account 13 = 8");
    }

    /** "Worn by 0, at first, to 20; a shoe that is worn by 20 is lost"; uphill by 1 for each place, downhill none. */
    private static void shoesWorn() {
        then("uphill and downhill", FOUR_HOUSES, "drive 4", "shoeOf 0 = 4", "shoeOf 3 = 4", "drive 1 = 4",
            "shoeOf 0 = 4", "drive 2", "shoeOf 0 = 5", "shoeOf 3 = 5", "drive 0", "shoeOf 0 = 5", "account 13 = 5");
        then("19 and 20", WORN_BY_16, "drive 3 = 4", "shoeOf 0 = 19", "account 12 = 4", "drive 4 = 0", "shoeOf 0 = 20",
            "account 12 = 0", "drive 0 = 0", "drive 1 refused 5 0", "shoeOf 0 = 20");
        then("no more than 20", WORN_BY_16, "drive 3", "drive 0", "drive 4 = 0", "account 3 = 4", "shoeOf 0 = 20",
            "shoeOf 1 = 20", "shoeOf 2 = 20", "shoeOf 3 = 20", "account 13 = 23", "drive 3 = 0",
            "drive 4 refused 5 0");
        Script.run("such shoes", "shoeOf 0 = 0", "shoeOf 3 = 0", "shoeOf -1 throws IndexOutOfBoundsException",
            "shoeOf 4 throws IndexOutOfBoundsException", "shoeOf 2147483647 throws IndexOutOfBoundsException",
            "shoeOf -2147483648 throws IndexOutOfBoundsException");
    }

    /** "With fewer than 3 shoes"; "those that it has as it begins a way count for the whole way". */
    private static void fewShoes() {
        then("0, 1, 2 and 3 shoes", LOST, "drive 1 refused 5 0", "shoe 3 = 20", "drive 1 refused 5 1", "shoe 1 = 20",
            "drive 4 refused 5 2", "shoe 0 = 20", "drive 4 = 3", "shoeOf 2 = 20", "shoeOf 0 = 4", "account 12 = 3");
        then("downhill without a shoe", WORN_BY_16, "drive 4 = 0", "drive 4 refused 4 4", "drive 2 = 0",
            "drive 3 refused 5 0", "drive 0 = 0", "account 13 = 20");
        then("two are lost at the first place", WORN_BY_16, "shoe 0 = 16", "drive 3", "drive 0", "shoe 1 = 19",
            "drive 4 = 2", "account 3 = 4", "shoeOf 0 = 7", "shoeOf 1 = 4", "shoeOf 2 = 20", "shoeOf 3 = 20",
            "account 13 = 23", "drive 3 = 2", "drive 4 refused 5 2", "drive 0 = 2", "shoe 2 = 20", "drive 1 = 3",
            "shoeOf 3 = 20");
        then("the way from a house", WORN_BY_16, "shoe 0", "drive 3", "drive 4 = 1", "drive 2", "drive 3 refused 5 1");
    }

    /** Promise 12, "to shoe the horse, the cart must be in the yard", "a new shoe costs 4 coins". */
    private static void newShoes() {
        then("such shoes", LOST, "shoe -1 refused 3 -1", "shoe 4 refused 3 4", "shoe 2147483647 refused 3 2147483647",
            "shoe -2147483648 refused 3 -2147483648", "shoe 0 = 20", "shoe 3 = 20", "shoeOf 0 = 0", "shoeOf 1 = 20");
        then("the cart elsewhere", FOUR_HOUSES, "drive 3", "shoe 4 refused 3 4", "shoe 0 refused 6 3", "drive 0",
            "shoe 0 = 3");
        then("a shoe that is not worn", FOUR_HOUSES, "shoe 3 refused 19 3", "drive 1", "drive 0", "shoe 3 = 1",
            "shoe 3 refused 19 3", "drive 1", "shoe 3 refused 6 1");
        then("the last four coins", FOUR_HOUSES, "drive 1", "drive 0", "shoe 0", "shoe 1", "shoe 2", "shoe 3 = 1",
            "drive 1", "drive 0", "account 9 = 4", "shoe 0 = 1", "account 9 = 0", "shoe 1 refused 16 4",
            "shoe 0 refused 19 0");
        then("one coin is missing", LOST, "bones 9", "bones 8", "account 9 = 3", "shoe 2 refused 16 1",
            "shoe 4 refused 3 4");
        then("three coins are missing", LOST, "bones 9", "bones 9", "bones 1", "account 9 = 1", "shoe 2 refused 16 3",
            "account 9 = 1", "shoeOf 2 = 20");
    }

    /** Promise 21. */
    private static void reach() {
        then("the highest house", FOUR_HOUSES, "reach = 4", "drive 2", "reach = 4", "drive 4", "reach = 4");
        Script.run("no house above", "reach = 0", "house 1 0", "reach = 1", "drive 1", "reach = 1", "house 1 0",
            "reach = 2");
        then("too few shoes", LOST, "reach = 0", "shoe 0", "reach = 0", "shoe 1", "reach = 0", "shoe 2", "reach = 4");
        then("too few shoes at a house", WORN_BY_16, "reach = 4", "drive 4", "reach = 4", "drive 3", "reach = 3",
            "drive 1", "reach = 1");
        then("shoes that will be lost on the way", WORN_BY_16, "drive 3", "drive 0", "reach = 4");
        Script.run("the eighth house", "8 times house 0 0", "reach = 8");
    }

    /** Promise 13, "less tired by 8, but not below 0, and not black". */
    private static void days() {
        Script.run("the least and the most", "days 1 = 0", "account 0 = 1", "days 30 = 0", "account 0 = 31",
            "days 0 refused 1 0", "days 31 refused 1 0", "days -1 refused 1 0", "days 2147483647 refused 1 0",
            "days -2147483648 refused 1 0", "account 0 = 31");
        String[] atDoor = {"house 0 0", "order 0 4", "carrier 5", "days 21 = 12", "load 30", "drive 1"};
        then("tired by 7", atDoor, "carry 0 7 = 7", "days 1", "carrierOf 0 1 = 0", "carrierOf 0 2 = 0");
        then("tired by 8", atDoor, "carry 0 8 = 8", "days 1", "carrierOf 0 1 = 0");
        then("tired by 9", atDoor, "carry 0 9 = 9", "carrierOf 0 2 = 9", "days 1", "carrierOf 0 1 = 1",
            "carrierOf 0 2 = 0", "days 1", "carrierOf 0 1 = 0");
        String[] tiredBy30 = {"house 9 0", "order 0 4", "carrier 1", "days 7", "load 3", "drive 1", "carry 0 3 = 30"};
        then("tired by 30", tiredBy30, "days 1", "carrierOf 0 1 = 22", "days 2", "carrierOf 0 1 = 6", "days 1",
            "carrierOf 0 1 = 0", "days 30", "carrierOf 0 1 = 0");
        then("tired by 30, three days at once", tiredBy30, "days 3", "carrierOf 0 1 = 6");
        then("tired by 30, four days at once", tiredBy30, "days 4", "carrierOf 0 1 = 0");
        then("what a day leaves", tiredBy30, "days 1", "houseOf 0 3 = 1", "houseOf 0 4 = 9", "houseOf 0 5 = 1",
            "houseOf 0 7 = 3", "carrierOf 0 3 = 3", "account 3 = 1", "account 4 = 0", "shoeOf 0 = 1");
    }

    /** "When the day becomes divisible by 7, each house has its order due more, up to 20." */
    private static void weeks() {
        String[] ordered = {"house 0 0", "house 0 1", "order 0 4", "order 1 1"};
        then("the sixth to the eighth day", ordered, "days 6 = 0", "days 1 = 5", "days 1 = 5", "days 5 = 5",
            "days 1 = 10");
        then("a week at once", ordered, "days 7 = 5", "days 7 = 10", "days 6 = 10", "days 8 = 20");
        then("four weeks at once", ordered, "days 28 = 20", "houseOf 0 3 = 16", "houseOf 1 3 = 4");
        then("five weeks in 30 days", ordered, "days 5", "days 30 = 25", "houseOf 0 3 = 20", "houseOf 1 3 = 5");
        then("up to 20, from 20", ordered, "days 30", "days 5 = 25", "days 7 = 26", "houseOf 0 3 = 20", "days 30",
            "houseOf 0 3 = 20", "houseOf 1 3 = 10");
        Script.run("up to 20, from 18", "house 0 0", "order 0 3", "days 30", "days 12 = 18", "days 6 = 18",
            "days 1 = 20", "days 7 = 20");
        Script.run("up to 20, from 19", "house 0 0", "order 0 3", "days 30", "days 12 = 18", "order 0 1",
            "days 7 = 19", "order 0 4", "days 7 = 20");
        Script.run("an order of none", "house 0 0", "order 0 4", "days 7 = 4", "order 0 0", "days 30 = 4");
        Script.run("a house that is added on the seventh day", "days 7", "house 0 0", "order 0 4", "days 6 = 0",
            "days 1 = 4");
        Script.run("a day on which nothing is due", "days 7 = 0", "house 0 0", "days 7 = 0");
        then("all eight houses", new String[] {"8 times house 0 0"}, "order 7 4", "order 6 1", "days 7 = 5",
            "houseOf 7 3 = 4", "houseOf 6 3 = 1", "houseOf 0 3 = 0");
    }
}
