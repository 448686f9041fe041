/** Promises 5, 6, 12, 16 and 21: the cart, the horse and its shoes. */
public final class CartTest {
    public static void main(String[] args) {
        loading();
        driving();
        horse();
        shoeing();
        shoeNumbers();
        reaching();
        Check.end();
    }

    private static void fourHouses(CoalStairs x) {
        for (int i = 0; i < 4; i++) {
            x.house(1, 0);
        }
    }

    private static void fourHousesAtThree(CoalStairs x) {
        fourHouses(x);
        x.drive(3);
    }

    private static void upAndDown(CoalStairs x, int place, int times) {
        for (int i = 0; i < times; i++) {
            x.drive(place);
            x.drive(0);
        }
    }

    /** All shoes are worn by 16, and the cart is in the yard. */
    private static void wornBySixteen(CoalStairs x) {
        fourHouses(x);
        upAndDown(x, 4, 4);
    }

    /** All shoes are lost, and the cart is in the yard. */
    private static void shoeless(CoalStairs x) {
        fourHouses(x);
        upAndDown(x, 4, 5);
    }

    /** Brings 9 sacks to each of three houses from a place up. */
    private static void trip(CoalStairs x, int carrier, int first, int houses) {
        x.load(9 * houses);
        for (int place = first; place < first + houses; place++) {
            x.drive(place);
            x.carry(carrier, 9);
        }
        x.drive(0);
    }

    /** 90 sacks are carried up, 10 are in the yard, none on the cart, which is in the yard. */
    private static void tenInYard(CoalStairs x) {
        for (int house = 0; house < 8; house++) {
            x.house(0, 0);
            x.order(house, 4);
        }
        for (int carrier = 0; carrier < 4; carrier++) {
            x.carrier(9);
        }
        x.days(30);
        x.days(5);
        trip(x, 0, 1, 3);
        trip(x, 1, 4, 3);
        trip(x, 2, 7, 2);
        for (int place = 1; place < 5; place += 3) {
            x.load(9);
            x.drive(place);
            x.pay(place - 1, 27);
            x.mop(3);
            x.carry(3, 9);
            x.drive(0);
        }
    }

    private static void loading() {
        Check.answers("load 1", 1, x -> { }, x -> x.load(1));
        Check.answers("load 30", 30, x -> { }, x -> x.load(30));
        Check.answers("load more", 12, x -> x.load(5), x -> x.load(7));
        Check.answers("load up to 30", 30, x -> x.load(25), x -> x.load(5));
        Check.answers("on the cart", 12, x -> { x.load(5); x.load(7); }, x -> x.account(4));
        Check.answers("in the yard", 88, x -> { x.load(5); x.load(7); }, x -> x.account(5));
        Check.answers("ten in the yard", 10, CartTest::tenInYard, x -> x.account(5));
        Check.answers("the last of the yard", 10, CartTest::tenInYard, x -> x.load(10));
        Check.answers("the yard is empty", 0, x -> { tenInYard(x); x.load(10); }, x -> x.account(5));
        Check.refused("load 0", 1, 0, x -> { }, x -> x.load(0));
        Check.refused("load -1", 1, 0, x -> { }, x -> x.load(-1));
        Check.refused("load 31", 1, 0, x -> { }, x -> x.load(31));
        Check.refused("load the most", 1, 0, x -> x.load(30), x -> x.load(Integer.MAX_VALUE));
        Check.refused("load 31 elsewhere", 1, 0, CartTest::fourHousesAtThree, x -> x.load(31));
        Check.refused("load elsewhere", 6, 3, CartTest::fourHousesAtThree, x -> x.load(30));
        Check.refused("too much elsewhere", 6, 3, x -> { x.load(30); fourHousesAtThree(x); }, x -> x.load(1));
        Check.refused("more than the yard has, elsewhere", 6, 1, x -> { tenInYard(x); x.shoe(0); x.shoe(1); x.shoe(2);
            x.drive(1); }, x -> x.load(11));
        Check.refused("more than the yard has", 8, 10, CartTest::tenInYard, x -> x.load(11));
        Check.refused("an empty yard", 8, 0, x -> { tenInYard(x); x.load(10); }, x -> x.load(1));
        Check.refused("the yard is named ahead of the cart", 8, 3, x -> { tenInYard(x); x.load(7); }, x -> x.load(24));
        Check.refused("more than the cart can have", 2, 30, x -> x.load(25), x -> x.load(6));
        Check.refused("a full cart", 2, 30, x -> x.load(30), x -> x.load(1));
    }

    private static void driving() {
        Check.answers("drive up", 4, CartTest::fourHouses, x -> x.drive(4));
        Check.answers("drive up, the place", 4, x -> { fourHouses(x); x.drive(4); }, x -> x.account(3));
        Check.answers("drive down", 4, CartTest::fourHousesAtThree, x -> x.drive(1));
        Check.answers("drive down, the place", 1, x -> { fourHousesAtThree(x); x.drive(1); }, x -> x.account(3));
        Check.answers("places uphill", 5, x -> { fourHousesAtThree(x); x.drive(1); x.drive(3); x.drive(0); },
            x -> x.account(13));
        Check.refused("place -1", 3, -1, CartTest::fourHouses, x -> x.drive(-1));
        Check.refused("place 5", 3, 5, CartTest::fourHouses, x -> x.drive(5));
        Check.refused("place 1 without a house", 3, 1, x -> { }, x -> x.drive(1));
        Check.refused("the lowest place", 3, Integer.MIN_VALUE, CartTest::fourHouses, x -> x.drive(Integer.MIN_VALUE));
        Check.refused("place 5 without shoes", 3, 5, CartTest::shoeless, x -> x.drive(5));
        Check.refused("yard from the yard", 4, 0, x -> { }, x -> x.drive(0));
        Check.refused("the same place", 4, 3, CartTest::fourHousesAtThree, x -> x.drive(3));
        Check.refused("the same place without shoes", 4, 4, x -> { wornBySixteen(x); x.drive(4); }, x -> x.drive(4));
    }

    private static void horse() {
        Check.answers("the way on which they are lost", 0, CartTest::wornBySixteen, x -> x.drive(4));
        Check.answers("not yet lost", 4, CartTest::wornBySixteen, x -> x.drive(3));
        Check.answers("places uphill, lost on the way", 20, CartTest::shoeless, x -> x.account(13));
        Check.answers("lost in the middle of the way, places", 19 + 4, x -> { wornBySixteen(x); upAndDown(x, 3, 1);
            x.drive(4); }, x -> x.account(13));
        Check.answers("lost in the middle of the way, worn", 20, x -> { wornBySixteen(x); upAndDown(x, 3, 1);
            x.drive(4); }, x -> x.shoeOf(2));
        Check.answers("down without shoes", 0, x -> { wornBySixteen(x); x.drive(4); }, x -> x.drive(2));
        Check.refused("up without shoes", 5, 0, CartTest::shoeless, x -> x.drive(1));
        Check.refused("up from a house without shoes", 5, 0, x -> { wornBySixteen(x); x.drive(4); x.drive(2); },
            x -> x.drive(3));
        Check.refused("up with one shoe", 5, 1, x -> { shoeless(x); x.shoe(2); }, x -> x.drive(1));
        Check.refused("up with two shoes", 5, 2, x -> { shoeless(x); x.shoe(2); x.shoe(0); }, x -> x.drive(1));
        Check.answers("up with three shoes", 3, x -> { shoeless(x); x.shoe(2); x.shoe(0); x.shoe(1); },
            x -> x.drive(4));
        Check.answers("a lost shoe is not worn more", 20, x -> { shoeless(x); x.shoe(2); x.shoe(0); x.shoe(1);
            x.drive(4); }, x -> x.shoeOf(3));
        Check.answers("one new shoe among old ones", 1, x -> { wornBySixteen(x); x.shoe(0); }, x -> x.drive(4));
    }

    private static void shoeing() {
        Check.answers("a worn shoe", 16, CartTest::wornBySixteen, x -> x.shoe(3));
        Check.answers("a lost shoe", 20, CartTest::shoeless, x -> x.shoe(0));
        Check.answers("the new shoe", 0, x -> { shoeless(x); x.shoe(1); }, x -> x.shoeOf(1));
        Check.answers("another shoe", 20, x -> { shoeless(x); x.shoe(1); }, x -> x.shoeOf(2));
        Check.answers("the coins", 16, x -> { shoeless(x); x.shoe(1); }, x -> x.account(9));
        Check.answers("the last coins", 0, x -> { shoeless(x); x.bones(8); x.bones(8); x.shoe(1); }, x -> x.account(9));
        Check.answers("shoes that are not lost", 1, x -> { shoeless(x); x.shoe(1); }, x -> x.account(12));
        Check.refused("shoe -1", 3, -1, CartTest::shoeless, x -> x.shoe(-1));
        Check.refused("shoe 4", 3, 4, CartTest::shoeless, x -> x.shoe(4));
        Check.refused("shoe 4 elsewhere", 3, 4, CartTest::fourHousesAtThree, x -> x.shoe(4));
        Check.refused("shoe elsewhere", 6, 3, CartTest::fourHousesAtThree, x -> x.shoe(0));
        Check.refused("not worn, elsewhere", 6, 1, x -> { wornBySixteen(x); x.shoe(1); x.shoe(2); x.drive(4);
            x.drive(1); }, x -> x.shoe(0));
        Check.refused("shoe that is not worn", 19, 3, x -> { }, x -> x.shoe(3));
        Check.refused("shoe that is new", 19, 2, x -> { shoeless(x); x.shoe(2); }, x -> x.shoe(2));
        Check.refused("not worn, no coins", 19, 1, x -> { x.bones(9); x.bones(9); }, x -> x.shoe(1));
        Check.refused("two coins are missing", 16, 2, x -> { shoeless(x); x.bones(9); x.bones(9); }, x -> x.shoe(1));
        Check.refused("all coins are missing", 16, 4, x -> { shoeless(x); x.bones(9); x.bones(9); x.bones(2); },
            x -> x.shoe(1));
    }

    private static void shoeNumbers() {
        for (int shoe = 0; shoe < 4; shoe++) {
            int which = shoe;
            Check.answers("shoeOf " + shoe, 3, CartTest::fourHousesAtThree, x -> x.shoeOf(which));
        }
        Check.thrown("shoeOf -1", IndexOutOfBoundsException.class, x -> { }, x -> x.shoeOf(-1));
        Check.thrown("shoeOf 4", IndexOutOfBoundsException.class, x -> { }, x -> x.shoeOf(4));
    }

    private static void reaching() {
        Check.answers("the highest house", 4, CartTest::fourHouses, CoalStairs::reach);
        Check.answers("from a house", 4, CartTest::fourHousesAtThree, CoalStairs::reach);
        Check.answers("at the highest house", 4, x -> { fourHouses(x); x.drive(4); }, CoalStairs::reach);
        Check.answers("shoes that will be lost", 4, CartTest::wornBySixteen, CoalStairs::reach);
        Check.answers("no shoes", 0, CartTest::shoeless, CoalStairs::reach);
        Check.answers("no shoes at a house", 2, x -> { wornBySixteen(x); x.drive(4); x.drive(2); }, CoalStairs::reach);
        Check.answers("two shoes", 0, x -> { shoeless(x); x.shoe(0); x.shoe(1); }, CoalStairs::reach);
        Check.answers("three shoes", 4, x -> { shoeless(x); x.shoe(0); x.shoe(1); x.shoe(3); }, CoalStairs::reach);
    }
}
