/** Promises 2, 3 and 4: houses, their orders, carriers. */
public final class BuildingTest {
    public static void main(String[] args) {
        houses();
        orders();
        carriers();
        Check.end();
    }

    private static void eightHouses(CoalStairs x) {
        for (int i = 0; i < 8; i++) {
            x.house(i, i % 3);
        }
    }

    private static void houses() {
        Check.answers("first house", 0, x -> { }, x -> x.house(0, 0));
        Check.answers("second house", 1, x -> x.house(9, 2), x -> x.house(9, 1));
        Check.answers("houses", 8, BuildingTest::eightHouses, x -> x.account(1));
        Check.answers("flights", 7, BuildingTest::eightHouses, x -> x.houseOf(7, 0));
        Check.answers("dog", 2, BuildingTest::eightHouses, x -> x.houseOf(5, 1));
        for (int what = 2; what < 8; what++) {
            int number = what;
            Check.answers("new house, " + what, what == 6 ? 99 : 0, x -> x.house(9, 0), x -> x.houseOf(0, number));
        }
        Check.answers("a house above where the cart is", 1, x -> { x.house(1, 0); x.drive(1); }, x -> x.house(1, 0));
        Check.refused("flights below 0", 1, 0, x -> { }, x -> x.house(-1, 0));
        Check.refused("flights above 9", 1, 0, x -> { }, x -> x.house(10, 0));
        Check.refused("flights far above", 1, 0, x -> { }, x -> x.house(Integer.MAX_VALUE, 0));
        Check.refused("dog below 0", 1, 0, x -> { }, x -> x.house(0, -1));
        Check.refused("dog above 2", 1, 0, x -> { }, x -> x.house(0, 3));
        Check.refused("ninth house", 2, 8, BuildingTest::eightHouses, x -> x.house(0, 0));
        Check.refused("ninth house out of range", 1, 0, BuildingTest::eightHouses, x -> x.house(0, 3));
    }

    private static void orders() {
        Check.answers("order before, at first", 0, x -> x.house(1, 0), x -> x.order(0, 4));
        Check.answers("order before", 4, x -> { x.house(1, 0); x.order(0, 4); }, x -> x.order(0, 0));
        Check.answers("order then", 0, x -> { x.house(1, 0); x.order(0, 4); x.order(0, 0); }, x -> x.houseOf(0, 2));
        Check.answers("order of the other house", 0, x -> { x.house(1, 0); x.house(1, 0); x.order(1, 3); },
            x -> x.houseOf(0, 2));
        Check.answers("order of this house", 3, x -> { x.house(1, 0); x.house(1, 0); x.order(1, 3); },
            x -> x.houseOf(1, 2));
        Check.answers("nothing is due by an order alone", 0, x -> { x.house(1, 0); x.order(0, 3); }, x -> x.account(6));
        Check.refused("order of no house", 3, 0, x -> { }, x -> x.order(0, 4));
        Check.refused("order of house -1", 3, -1, x -> x.house(1, 0), x -> x.order(-1, 5));
        Check.refused("order of house 1", 3, 1, x -> x.house(1, 0), x -> x.order(1, 5));
        Check.refused("order of house 8", 3, 8, BuildingTest::eightHouses, x -> x.order(8, 1));
        Check.refused("order far below", 3, Integer.MIN_VALUE, x -> x.house(1, 0), x -> x.order(Integer.MIN_VALUE, 1));
        Check.refused("order of 5", 1, 0, x -> x.house(1, 0), x -> x.order(0, 5));
        Check.refused("order of -1", 1, 0, x -> x.house(1, 0), x -> x.order(0, -1));
    }

    private static void fourCarriers(CoalStairs x) {
        x.carrier(1);
        x.carrier(9);
        x.carrier(5);
        x.carrier(3);
    }

    private static void carriers() {
        Check.answers("first carrier", 0, x -> { }, x -> x.carrier(1));
        Check.answers("fourth carrier", 3, x -> { x.carrier(1); x.carrier(2); x.carrier(3); }, x -> x.carrier(9));
        Check.answers("carriers", 4, BuildingTest::fourCarriers, x -> x.account(2));
        Check.answers("strength", 9, BuildingTest::fourCarriers, x -> x.carrierOf(1, 0));
        for (int what = 1; what < 4; what++) {
            int number = what;
            Check.answers("new carrier, " + what, 0, x -> x.carrier(9), x -> x.carrierOf(0, number));
        }
        Check.refused("strength 0", 1, 0, x -> { }, x -> x.carrier(0));
        Check.refused("strength -5", 1, 0, x -> { }, x -> x.carrier(-5));
        Check.refused("strength 10", 1, 0, x -> { }, x -> x.carrier(10));
        Check.refused("fifth carrier", 2, 4, BuildingTest::fourCarriers, x -> x.carrier(1));
        Check.refused("fifth carrier out of range", 1, 0, BuildingTest::fourCarriers, x -> x.carrier(0));
    }
}
