/** Promise 13: days that go by. */
public final class DaysTest {
    public static void main(String[] args) {
        weeks();
        nights();
        Check.end();
    }

    private static void ordered(CoalStairs x) {
        x.house(0, 0);
        x.house(0, 0);
        x.house(0, 0);
        x.order(0, 4);
        x.order(2, 3);
    }

    private static void weeks() {
        Check.answers("one day", 0, DaysTest::ordered, x -> x.days(1));
        Check.answers("six days", 0, DaysTest::ordered, x -> x.days(6));
        Check.answers("the seventh day", 7, x -> { ordered(x); x.days(6); }, x -> x.days(1));
        Check.answers("the eighth day", 7, x -> { ordered(x); x.days(7); }, x -> x.days(1));
        Check.answers("thirteen days", 7, DaysTest::ordered, x -> x.days(13));
        Check.answers("two weeks", 14, DaysTest::ordered, x -> x.days(14));
        Check.answers("thirty days", 28, DaysTest::ordered, x -> x.days(30));
        Check.answers("due, up to 20", 20 + 15, x -> { ordered(x); x.days(30); }, x -> x.days(5));
        Check.answers("due, no more than 20", 20 + 18, x -> { ordered(x); x.days(30); }, x -> x.days(12));
        Check.answers("due, 20 from below", 20, x -> { x.house(0, 0); x.order(0, 3); x.days(30); x.days(12); },
            x -> x.days(7));
        Check.answers("due of each house", 3, x -> { ordered(x); x.days(7); }, x -> x.houseOf(2, 3));
        Check.answers("due without an order", 0, x -> { ordered(x); x.days(7); }, x -> x.houseOf(1, 3));
        Check.answers("an order that was changed", 6, x -> { x.house(0, 0); x.order(0, 4); x.days(7); x.order(0, 2); },
            x -> x.days(7));
        Check.answers("the day", 0, x -> { }, x -> x.account(0));
        Check.answers("the day then", 31, x -> { x.days(30); x.days(1); }, x -> x.account(0));
        Check.refused("no days", 1, 0, x -> { }, x -> x.days(0));
        Check.refused("days below 0", 1, 0, x -> { }, x -> x.days(-1));
        Check.refused("31 days", 1, 0, x -> { }, x -> x.days(31));
        Check.refused("the most days", 1, 0, x -> { }, x -> x.days(Integer.MAX_VALUE));
    }

    /** The carrier 0 is tired by 18 and black by 9; the houses have given a bone, are awake, have footprints. */
    private static void evening(CoalStairs x) {
        x.house(3, 0);
        x.house(0, 1);
        x.house(0, 2);
        for (int house = 0; house < 3; house++) {
            x.order(house, 4);
        }
        x.carrier(5);
        x.carrier(5);
        x.days(30);
        x.load(30);
        x.drive(1);
        x.carry(0, 9);
        x.drive(2);
        x.carry(1, 2);
        x.drive(3);
        x.bone();
    }

    private static void afterwards(String name, double due, int days, Check.Call call) {
        Check.answers(name + " after " + days + " days", due, x -> { evening(x); if (days > 0) { x.days(days); } }, call);
    }

    private static void nights() {
        int[] tired = {18, 10, 2, 0, 0};
        for (int days = 0; days < tired.length; days++) {
            afterwards("tired", tired[days], days, x -> x.carrierOf(0, 1));
        }
        afterwards("tired, the other", 2, 0, x -> x.carrierOf(1, 1));
        afterwards("tired, the other", 0, 1, x -> x.carrierOf(1, 1));
        afterwards("black", 9, 0, x -> x.carrierOf(0, 2));
        afterwards("black", 0, 1, x -> x.carrierOf(0, 2));
        afterwards("the sleepy dog lets", 0, 0, x -> x.houseOf(1, 6));
        afterwards("the sleepy dog lets", 2, 1, x -> x.houseOf(1, 6));
        afterwards("the fierce dog lets", 99, 0, x -> x.houseOf(2, 6));
        afterwards("the fierce dog lets", 0, 1, x -> x.houseOf(2, 6));
        afterwards("footprints", 12, 3, x -> x.houseOf(0, 5));
        afterwards("arrears", 27, 3, x -> x.houseOf(0, 4));
        afterwards("sacks of the carrier", 9, 3, x -> x.carrierOf(0, 3));
        afterwards("sacks of the house", 2, 3, x -> x.houseOf(1, 7));
        afterwards("the cart", 3, 3, x -> x.account(3));
        afterwards("a shoe", 3, 3, x -> x.shoeOf(0));
        afterwards("coins", 20, 3, x -> x.account(9));
    }
}
