/** Promises 8 to 11: bones, mopping, paying. */
public final class HouseholdTest {
    public static void main(String[] args) {
        givingBones();
        buyingBones();
        mopping();
        paying();
        Check.end();
    }

    private static Check.Setup hillAt(int place) {
        return x -> {
            Check.hill(x);
            x.drive(place);
        };
    }

    private static Check.Setup and(Check.Setup first, Check.Setup then) {
        return x -> {
            first.on(x);
            then.on(x);
        };
    }

    private static void givingBones() {
        Check.answers("a bone", 2, hillAt(2), CoalStairs::bone);
        Check.answers("a bone, the fierce dog lets", 99, and(hillAt(3), CoalStairs::bone), x -> x.houseOf(2, 6));
        Check.answers("a bone, the other dog does not", 2, and(hillAt(3), CoalStairs::bone), x -> x.houseOf(1, 6));
        Check.answers("a bone, what is left", 2, and(hillAt(3), CoalStairs::bone), x -> x.account(11));
        Check.answers("a bone costs no coin here", 20, and(hillAt(3), CoalStairs::bone), x -> x.account(9));
        Check.answers("carry after a bone", 4, and(hillAt(3), CoalStairs::bone), x -> x.carry(0, 4));
        Check.answers("a bone the next day", 1, and(hillAt(3), x -> { x.bone(); x.days(1); }), CoalStairs::bone);
        Check.answers("a bone to a dog that is awake", 4, and(hillAt(2), x -> { x.carry(2, 2); x.bone(); x.carry(0, 2); }),
            x -> x.houseOf(1, 7));
        Check.refused("a bone in the yard", 7, 0, Check::hill, CoalStairs::bone);
        Check.refused("a bone in the yard, none left", 7, 0, x -> { threeBones(x); x.drive(0); }, CoalStairs::bone);
        Check.refused("no dog", 14, 0, hillAt(1), CoalStairs::bone);
        Check.refused("it has a bone", 14, 2, and(hillAt(3), CoalStairs::bone), CoalStairs::bone);
        Check.refused("it has a bone, none left", 14, 2, HouseholdTest::threeBones, CoalStairs::bone);
        Check.refused("no bone", 15, 0, x -> { threeBones(x); x.days(1); }, CoalStairs::bone);
        Check.refused("no dog, none left", 14, 0, x -> { threeBones(x); x.drive(1); }, CoalStairs::bone);
    }

    /** All three bones are given; the cart is at the fierce dog, which has the last of them. */
    private static void threeBones(CoalStairs x) {
        hillAt(2).on(x);
        x.bone();
        x.drive(3);
        x.bone();
        x.days(1);
        x.bone();
    }

    private static void buyingBones() {
        Check.answers("buy 1", 4, x -> { }, x -> x.bones(1));
        Check.answers("buy 9", 12, x -> { }, x -> x.bones(9));
        Check.answers("coins", 11, x -> x.bones(9), x -> x.account(9));
        Check.answers("bones", 12, x -> x.bones(9), x -> x.account(11));
        Check.answers("all coins", 23, x -> { x.bones(9); x.bones(9); }, x -> x.bones(2));
        Check.answers("buy elsewhere", 5, hillAt(2), x -> x.bones(2));
        Check.refused("buy 0", 1, 0, x -> { }, x -> x.bones(0));
        Check.refused("buy -1", 1, 0, x -> { }, x -> x.bones(-1));
        Check.refused("buy 10", 1, 0, x -> { }, x -> x.bones(10));
        Check.refused("one coin is missing", 16, 1, x -> { x.bones(9); x.bones(9); }, x -> x.bones(3));
        Check.refused("nine coins are missing", 16, 9, x -> { x.bones(9); x.bones(9); x.bones(2); }, x -> x.bones(9));
        Check.refused("out of range, no coins", 1, 0, x -> { x.bones(9); x.bones(9); x.bones(2); }, x -> x.bones(10));
    }

    /** At the house 0 the carrier 0 leaves some footprints: 1 for 3 sacks, 2 for 4. */
    private static Check.Setup carried(int sacks) {
        return and(hillAt(1), x -> x.carry(0, sacks));
    }

    private static void mopping() {
        Check.answers("mop 1", 1, carried(3), x -> x.mop(2));
        Check.answers("mop 1, tired", 1, and(carried(3), x -> x.mop(2)), x -> x.carrierOf(2, 1));
        Check.answers("mop 2", 2, carried(4), x -> x.mop(2));
        Check.answers("mop 2, tired", 1, and(carried(4), x -> x.mop(2)), x -> x.carrierOf(2, 1));
        Check.answers("mop, footprints", 0, and(carried(4), x -> x.mop(2)), x -> x.houseOf(0, 5));
        Check.answers("mop, black", 0, and(carried(4), x -> x.mop(2)), x -> x.carrierOf(2, 2));
        Check.answers("mop, still black", 4, and(carried(4), x -> x.mop(0)), x -> x.carrierOf(0, 2));
        Check.answers("mop, tired already", 9, and(carried(4), x -> x.mop(0)), x -> x.carrierOf(0, 1));
        Check.answers("mop at the house of the cart", 1, and(carried(4), x -> { x.drive(2); x.carry(0, 1); }),
            x -> x.mop(2));
        Check.answers("footprints of the other house", 2, and(carried(4), x -> { x.drive(2); x.carry(0, 1); x.mop(2); }),
            x -> x.houseOf(0, 5));
        Check.answers("mop past the dog", 1, and(hillAt(3), x -> { x.bone(); x.carry(0, 3); x.days(1); }),
            x -> x.mop(0));
        Check.answers("mop until tired by just 30", 30, and(tiredBy29(4), x -> x.mop(0)), x -> x.carrierOf(0, 1));
        Check.refused("carrier -1", 3, -1, carried(4), x -> x.mop(-1));
        Check.refused("carrier 3", 3, 3, carried(4), x -> x.mop(3));
        Check.refused("carrier 3 in the yard", 3, 3, Check::hill, x -> x.mop(3));
        Check.refused("mop in the yard", 7, 0, Check::hill, x -> x.mop(0));
        Check.refused("no footprints", 18, 0, carried(2), x -> x.mop(0));
        Check.refused("no footprints above", 18, 2, hillAt(3), x -> x.mop(0));
        Check.refused("no footprints any more", 18, 0, and(carried(4), x -> x.mop(1)), x -> x.mop(1));
        Check.refused("too tired", 13, 31, tiredBy29(5), x -> x.mop(0));
        Check.refused("too tired at the other house", 13, 38, and(tiredBy29(5), x -> x.drive(2)), x -> x.mop(0));
    }

    /** The carrier 0 is tired by 29; at the house 0, where the cart is, the carrier 1 has carried some sacks up. */
    private static Check.Setup tiredBy29(int sacks) {
        return x -> {
            x.house(9, 0);
            x.house(0, 0);
            x.order(0, 4);
            x.order(1, 4);
            x.carrier(1);
            x.carrier(9);
            x.days(21);
            x.load(30);
            x.drive(1);
            x.carry(0, 2);
            x.carry(1, sacks);
            x.drive(2);
            x.carry(0, 9);
            x.drive(1);
        };
    }

    private static void paying() {
        Check.answers("pay 1", 11, carried(4), x -> x.pay(0, 1));
        Check.answers("pay all", 0, carried(4), x -> x.pay(0, 12));
        Check.answers("pay from elsewhere", 5, and(carried(4), x -> x.drive(0)), x -> x.pay(0, 7));
        Check.answers("arrears", 5, and(carried(4), x -> x.pay(0, 7)), x -> x.houseOf(0, 4));
        Check.answers("coins", 27, and(carried(4), x -> x.pay(0, 7)), x -> x.account(9));
        Check.answers("paid", 7, and(carried(4), x -> x.pay(0, 7)), x -> x.account(10));
        Check.answers("paid twice", 10, and(carried(4), x -> { x.pay(0, 7); x.bones(9); x.pay(0, 3); }),
            x -> x.account(10));
        Check.refused("house -1", 3, -1, carried(4), x -> x.pay(-1, 1));
        Check.refused("house 3", 3, 3, carried(4), x -> x.pay(3, 1));
        Check.refused("house 3, no coins", 3, 3, carried(4), x -> x.pay(3, 0));
        Check.refused("no coins", 1, 0, carried(4), x -> x.pay(0, 0));
        Check.refused("coins below 0", 1, 0, carried(4), x -> x.pay(0, -1));
        Check.refused("100 coins", 1, 0, carried(4), x -> x.pay(0, 100));
        Check.refused("99 coins", 17, 12, carried(4), x -> x.pay(0, 99));
        Check.refused("13 coins", 17, 12, carried(4), x -> x.pay(0, 13));
        Check.refused("no arrears", 17, 0, carried(4), x -> x.pay(1, 1));
    }
}
