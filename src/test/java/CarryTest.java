import java.util.NoSuchElementException;

/** Promises 7, 17 to 20 and 22: sacks that are carried up. */
public final class CarryTest {
    public static void main(String[] args) {
        carrying();
        refusals();
        orderOfRefusals();
        tiring();
        could();
        may();
        best();
        quiet();
        Check.end();
    }

    /** One house at whose place the cart is, 16 sacks due, 30 on the cart, carriers of the strengths 5 and 1. */
    private static Check.Setup at(int flights, int dog) {
        return x -> {
            x.house(flights, dog);
            x.order(0, 4);
            x.carrier(5);
            x.carrier(1);
            x.days(28);
            x.load(30);
            x.drive(1);
        };
    }

    private static Check.Setup and(Check.Setup first, Check.Setup then) {
        return x -> {
            first.on(x);
            then.on(x);
        };
    }

    private static final Check.Setup TIRED_BY_21 = and(at(3, 0), x -> {
        x.carry(0, 8);
        x.mop(0);
        x.pay(0, 24);
    });

    private static final Check.Setup TIRED_BY_29 = and(TIRED_BY_21, x -> {
        x.carry(0, 4);
        x.mop(1);
    });

    private static void carrying() {
        Check.answers("the first sack", 2, at(3, 0), x -> x.carry(0, 1));
        Check.answers("nine sacks", 18, at(3, 0), x -> x.carry(0, 9));
        Check.answers("a second time", 10, and(at(3, 0), x -> x.carry(0, 4)), x -> x.carry(0, 1));
        Check.answers("tired by just 30", 30, at(9, 0), x -> x.carry(0, 5));
        Check.answers("arrears of just 12", 10, and(at(3, 0), x -> x.carry(0, 4)), x -> x.carry(0, 1));
        Check.Setup four = and(at(3, 0), x -> x.carry(0, 4));
        Check.answers("due", 12, four, x -> x.houseOf(0, 3));
        Check.answers("arrears", 12, four, x -> x.houseOf(0, 4));
        Check.answers("footprints", 2, four, x -> x.houseOf(0, 5));
        Check.answers("sacks of the house", 4, four, x -> x.houseOf(0, 7));
        Check.answers("tired", 8, four, x -> x.carrierOf(0, 1));
        Check.answers("black", 4, four, x -> x.carrierOf(0, 2));
        Check.answers("sacks of the carrier", 4, four, x -> x.carrierOf(0, 3));
        Check.answers("the other carrier", 0, four, x -> x.carrierOf(1, 1) + x.carrierOf(1, 2) + x.carrierOf(1, 3));
        Check.answers("on the cart", 26, four, x -> x.account(4));
        Check.answers("in the yard", 70, four, x -> x.account(5));
        Check.answers("coins", 20, four, x -> x.account(9));
        Check.answers("footprints of nine", 12, and(at(0, 0), x -> x.carry(0, 9)), x -> x.houseOf(0, 5));
        Check.Setup sixteen = and(at(0, 0), x -> { x.carry(0, 9); x.pay(0, 27); x.mop(1); x.carry(0, 7); });
        Check.answers("black up to 9", 9, sixteen, x -> x.carrierOf(0, 2));
        Check.answers("footprints of the blackest", 21, sixteen, x -> x.houseOf(0, 5));
        Check.answers("eight footprints", 4, and(at(0, 0), x -> { x.carry(0, 7); x.pay(0, 21); x.carry(1, 3); }),
            x -> x.carry(1, 1));
    }

    private static void refusals() {
        Check.refused("carrier -1", 3, -1, at(3, 0), x -> x.carry(-1, 1));
        Check.refused("carrier 2", 3, 2, at(3, 0), x -> x.carry(2, 1));
        Check.refused("carrier 4", 3, 4, at(3, 0), x -> x.carry(4, 1));
        Check.refused("no sack", 1, 0, at(3, 0), x -> x.carry(0, 0));
        Check.refused("sacks below 0", 1, 0, at(3, 0), x -> x.carry(0, -1));
        Check.refused("ten sacks", 1, 0, at(3, 0), x -> x.carry(0, 10));
        Check.refused("the most sacks", 1, 0, at(3, 0), x -> x.carry(0, Integer.MAX_VALUE));
        Check.refused("in the yard", 7, 0, and(at(3, 0), x -> x.drive(0)), x -> x.carry(0, 1));
        Check.refused("sacks on the cart", 8, 3, x -> { x.house(0, 0); x.order(0, 4); x.carrier(5); x.days(14);
            x.load(3); x.drive(1); }, x -> x.carry(0, 4));
        Check.refused("no sack on the cart", 8, 0, x -> { x.house(0, 0); x.order(0, 4); x.carrier(5); x.days(14);
            x.drive(1); }, x -> x.carry(0, 1));
        Check.refused("fewer due", 9, 8, and(at(0, 0), x -> x.carry(0, 8)), x -> x.carry(0, 9));
        Check.refused("none due", 9, 0, x -> { x.house(0, 0); x.carrier(5); x.load(9); x.drive(1); },
            x -> x.carry(0, 1));
        Check.refused("arrears", 10, 15, and(at(0, 0), x -> x.carry(0, 5)), x -> x.carry(0, 1));
        Check.refused("arrears of 13", 10, 13, and(at(0, 0), x -> { x.carry(0, 5); x.pay(0, 2); }), x -> x.carry(0, 1));
        Check.refused("footprints", 11, 9, and(at(0, 0), x -> { x.carry(0, 8); x.pay(0, 12); }), x -> x.carry(1, 1));
        Check.refused("a fierce dog", 12, 0, at(3, 2), x -> x.carry(0, 1));
        Check.refused("a sleepy dog", 12, 2, at(3, 1), x -> x.carry(0, 3));
        Check.refused("a sleepy dog, one so far", 12, 1, and(at(3, 1), x -> x.carry(0, 1)), x -> x.carry(0, 2));
        Check.refused("a sleepy dog, other carrier", 12, 1, and(at(3, 1), x -> x.carry(0, 1)), x -> x.carry(1, 2));
        Check.refused("a sleepy dog, awake", 12, 0, and(at(3, 1), x -> { x.carry(0, 1); x.carry(1, 1); }),
            x -> x.carry(1, 1));
        Check.refused("too tired", 13, 36, at(9, 0), x -> x.carry(0, 6));
        Check.refused("too tired, in all", 13, 40, and(at(9, 0), x -> x.carry(1, 3)), x -> x.carry(1, 1));
        Check.refused("too tired by one", 13, 31, TIRED_BY_29, x -> x.carry(0, 1));
    }

    private static void orderOfRefusals() {
        Check.refused("3 ahead of 1", 3, 2, at(3, 0), x -> x.carry(2, 0));
        Check.refused("1 ahead of 7", 1, 0, and(at(3, 0), x -> x.drive(0)), x -> x.carry(0, 0));
        Check.refused("7 ahead of 8", 7, 0, x -> { x.house(0, 0); x.carrier(5); }, x -> x.carry(0, 1));
        Check.refused("8 ahead of 9", 8, 2, x -> { x.house(0, 0); x.carrier(5); x.load(2); x.drive(1); },
            x -> x.carry(0, 3));
        Check.refused("9 ahead of 10", 9, 8, and(at(0, 0), x -> x.carry(0, 8)), x -> x.carry(0, 9));
        Check.refused("10 ahead of 11", 10, 24, and(at(0, 0), x -> x.carry(0, 8)), x -> x.carry(0, 1));
        Check.refused("11 ahead of 12", 11, 9, and(at(0, 1), x -> { x.bone(); x.carry(0, 8); x.pay(0, 24);
            x.days(1); }), x -> x.carry(0, 3));
        Check.refused("12 ahead of 13", 12, 2, at(9, 1), x -> x.carry(1, 4));
    }

    private static void tiring() {
        int[][] due = {{9, 1, 10}, {9, 9, 4}, {1, 1, 2}, {1, 2, 1}, {5, 5, 4}, {4, 9, 2}, {0, 1, 1}, {8, 3, 7}};
        for (int[] row : due) {
            Check.answers("tires " + row[0] + " " + row[1], row[2], x -> { x.house(row[0], 0); x.carrier(row[1]); },
                x -> x.tires(0, 0));
        }
        Check.answers("tires of the second ones", 10, Check::hill, x -> x.tires(1, 1));
        Check.answers("tires however tired", 10, and(at(9, 0), x -> x.carry(1, 3)), x -> x.tires(1, 0));
        outOfBounds("tires", CoalStairs::tires);
        outOfBounds("canCarry", CoalStairs::canCarry);
    }

    private interface OfCarrierAndHouse {
        int on(CoalStairs x, int carrier, int house);
    }

    private static void outOfBounds(String name, OfCarrierAndHouse call) {
        int[][] pairs = {{-1, 0}, {3, 0}, {0, -1}, {0, 3}, {4, 8}, {Integer.MIN_VALUE, 0}, {0, Integer.MAX_VALUE}};
        for (int[] pair : pairs) {
            Check.thrown(name + " " + pair[0] + " " + pair[1], IndexOutOfBoundsException.class, Check::hill,
                x -> call.on(x, pair[0], pair[1]));
        }
    }

    private static void could() {
        int[][] due = {{0, 0, 15}, {0, 1, 5}, {0, 2, 30}, {1, 0, 7}, {1, 1, 3}, {1, 2, 30}, {2, 1, 7}};
        for (int[] row : due) {
            Check.answers("canCarry " + row[0] + " " + row[1], row[2], Check::hill, x -> x.canCarry(row[0], row[1]));
        }
        Check.answers("canCarry when tired", 6, and(at(3, 0), x -> x.carry(0, 9)), x -> x.canCarry(0, 0));
        Check.answers("canCarry when too tired", 0, and(at(9, 0), x -> x.carry(1, 3)), x -> x.canCarry(1, 0));
        Check.answers("canCarry with a part left", 4, TIRED_BY_21, x -> x.canCarry(0, 0));
        Check.answers("canCarry with less than one left", 0, TIRED_BY_29, x -> x.canCarry(0, 0));
        Check.answers("canCarry at a fierce dog", 15, at(3, 2), x -> x.canCarry(0, 0));
    }

    private static void may() {
        Check.answers("mayCarry in the yard", 0, Check::hill, x -> x.mayCarry(0));
        Check.answers("mayCarry, 9 at most", 9, at(0, 0), x -> x.mayCarry(0));
        Check.answers("mayCarry what is on the cart", 3, x -> { x.house(0, 0); x.order(0, 4); x.carrier(5); x.days(14);
            x.load(3); x.drive(1); }, x -> x.mayCarry(0));
        Check.answers("mayCarry what is due", 4, x -> { x.house(0, 0); x.order(0, 4); x.carrier(5); x.days(7);
            x.load(9); x.drive(1); }, x -> x.mayCarry(0));
        Check.answers("mayCarry, arrears 12", 9, and(at(0, 0), x -> x.carry(0, 4)), x -> x.mayCarry(0));
        Check.answers("mayCarry, arrears 13", 0, and(at(0, 0), x -> { x.carry(0, 5); x.pay(0, 2); }),
            x -> x.mayCarry(0));
        Check.answers("mayCarry, 8 footprints", 6, and(at(0, 0), x -> { x.carry(0, 7); x.pay(0, 21); x.carry(1, 3); }),
            x -> x.mayCarry(1));
        Check.answers("mayCarry, 9 footprints", 0, and(at(0, 0), x -> { x.carry(0, 8); x.pay(0, 24); }),
            x -> x.mayCarry(1));
        Check.answers("mayCarry, sleepy", 2, at(0, 1), x -> x.mayCarry(0));
        Check.answers("mayCarry, sleepy, one so far", 1, and(at(0, 1), x -> x.carry(1, 1)), x -> x.mayCarry(0));
        Check.answers("mayCarry, awake", 0, and(at(0, 1), x -> x.carry(1, 2)), x -> x.mayCarry(0));
        Check.answers("mayCarry, fierce", 0, at(0, 2), x -> x.mayCarry(0));
        Check.answers("mayCarry, bone", 9, and(at(0, 2), CoalStairs::bone), x -> x.mayCarry(0));
        Check.answers("mayCarry until tired", 5, at(9, 0), x -> x.mayCarry(0));
        Check.answers("mayCarry until tired, weaker", 3, at(9, 0), x -> x.mayCarry(1));
        Check.answers("mayCarry when tired", 0, TIRED_BY_29, x -> x.mayCarry(0));
        Check.thrown("mayCarry -1", IndexOutOfBoundsException.class, at(0, 0), x -> x.mayCarry(-1));
        Check.thrown("mayCarry 2", IndexOutOfBoundsException.class, at(0, 0), x -> x.mayCarry(2));
        Check.thrown("mayCarry in the yard, none", IndexOutOfBoundsException.class, x -> { }, x -> x.mayCarry(0));
    }

    /** Carriers of one strength; the first two carry some sacks at the house 1, which has no flights. */
    private static Check.Setup pair(int first, int second) {
        return x -> {
            x.house(9, 2);
            x.house(0, 0);
            x.order(1, 4);
            x.carrier(5);
            x.carrier(5);
            x.days(7);
            x.load(9);
            x.drive(2);
            if (first > 0) {
                x.carry(0, first);
            }
            if (second > 0) {
                x.carry(1, second);
            }
        };
    }

    private static void best() {
        Check.answers("bestCarrier, the strongest", 2, Check::hill, x -> x.bestCarrier(1));
        Check.answers("bestCarrier, the lowest", 0, Check::hill, x -> x.bestCarrier(0));
        Check.answers("bestCarrier, both fresh", 0, pair(0, 0), x -> x.bestCarrier(0));
        Check.answers("bestCarrier, the less tired", 1, pair(1, 0), x -> x.bestCarrier(0));
        Check.answers("bestCarrier, more sacks though blacker", 0, x -> { x.house(9, 0); x.order(0, 4); x.carrier(9);
            x.carrier(5); x.days(7); x.load(1); x.drive(1); x.carry(0, 1); }, x -> x.bestCarrier(0));
        Check.answers("bestCarrier, the less black is first", 0, pair(1, 2), x -> x.bestCarrier(0));
        Check.answers("bestCarrier, the less black is second", 1, pair(2, 1), x -> x.bestCarrier(0));
        Check.answers("bestCarrier, equally black", 0, pair(1, 1), x -> x.bestCarrier(0));
        Check.answers("bestCarrier, the lowest of two others", 1, and(pair(1, 0), x -> x.carrier(5)),
            x -> x.bestCarrier(0));
        Check.answers("bestCarrier, only one can", 1, x -> { x.house(9, 0); x.order(0, 4); x.carrier(1); x.carrier(1);
            x.days(7); x.load(9); x.drive(1); x.carry(0, 3); }, x -> x.bestCarrier(0));
        Check.answers("bestCarrier, just one sack", 0, x -> { x.house(9, 0); x.order(0, 4); x.carrier(1); x.days(7);
            x.load(9); x.drive(1); x.carry(0, 2); }, x -> x.bestCarrier(0));
        Check.thrown("bestCarrier, nobody can", NoSuchElementException.class, x -> { x.house(9, 0); x.order(0, 4);
            x.carrier(1); x.days(7); x.load(9); x.drive(1); x.carry(0, 3); }, x -> x.bestCarrier(0));
        Check.thrown("bestCarrier, no carriers", NoSuchElementException.class, x -> x.house(0, 0),
            x -> x.bestCarrier(0));
        Check.thrown("bestCarrier -1", IndexOutOfBoundsException.class, Check::hill, x -> x.bestCarrier(-1));
        Check.thrown("bestCarrier 3", IndexOutOfBoundsException.class, Check::hill, x -> x.bestCarrier(3));
        Check.thrown("bestCarrier of nothing", IndexOutOfBoundsException.class, x -> { }, x -> x.bestCarrier(0));
    }

    private static void isQuiet(String name, boolean due, Check.Setup setup) {
        Check.answers("isQuiet, " + name, due ? 1 : 0, setup, x -> x.isQuiet(0) ? 1 : 0);
    }

    private static void quiet() {
        isQuiet("none", true, at(0, 0));
        isQuiet("sleepy", true, at(0, 1));
        isQuiet("sleepy, one so far", true, and(at(0, 1), x -> x.carry(0, 1)));
        isQuiet("sleepy, two so far", false, and(at(0, 1), x -> x.carry(0, 2)));
        isQuiet("sleepy, the next day", true, and(at(0, 1), x -> { x.carry(0, 2); x.days(1); }));
        isQuiet("sleepy, with a bone", true, and(at(0, 1), x -> { x.carry(0, 2); x.bone(); }));
        isQuiet("fierce", false, at(0, 2));
        isQuiet("fierce, with a bone", true, and(at(0, 2), CoalStairs::bone));
        isQuiet("fierce, the next day", false, and(at(0, 2), x -> { x.bone(); x.days(1); }));
        isQuiet("footprints and arrears do not matter", true, and(at(0, 0), x -> x.carry(0, 9)));
        Check.thrown("isQuiet -1", IndexOutOfBoundsException.class, at(0, 0), x -> x.isQuiet(-1) ? 1 : 0);
        Check.thrown("isQuiet 1", IndexOutOfBoundsException.class, at(0, 0), x -> x.isQuiet(1) ? 1 : 0);
    }
}
