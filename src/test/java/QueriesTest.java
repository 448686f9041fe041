import java.util.NoSuchElementException;

/** Promises 14, 15, 23 to 25 and 32 to 34: numbers, ranks, means and accounts. */
public final class QueriesTest {
    public static void main(String[] args) {
        housesAndCarriers();
        wrongNumbers();
        ranks();
        sacksTwice();
        means();
        accounts();
        Check.end();
    }

    /** Arrears of 5, 12, 0; the dog of the house 1 has a bone, that of the house 2 is fierce. */
    private static void evening(CoalStairs x) {
        Check.hill(x);
        x.drive(1);
        x.carry(0, 4);
        x.pay(0, 7);
        x.drive(2);
        x.bone();
        x.carry(2, 4);
        x.drive(0);
    }

    private static void housesAndCarriers() {
        int[][] houses = {{3, 0, 4, 0, 5, 2, 99, 4}, {9, 1, 4, 0, 12, 2, 99, 4}, {0, 2, 4, 4, 0, 0, 0, 0}};
        int[][] carriers = {{5, 8, 4, 4}, {1, 0, 0, 0}, {9, 16, 4, 4}};
        for (int i = 0; i < 3; i++) {
            int number = i;
            for (int j = 0; j < 8; j++) {
                int what = j;
                Check.answers("houseOf " + i + " " + j, houses[i][j], QueriesTest::evening, x -> x.houseOf(number, what));
            }
            for (int j = 0; j < 4; j++) {
                int what = j;
                Check.answers("carrierOf " + i + " " + j, carriers[i][j], QueriesTest::evening,
                    x -> x.carrierOf(number, what));
            }
        }
        int[] lets = {2, 1, 0};
        for (int i = 0; i < 3; i++) {
            int sacks = i;
            Check.answers("the sleepy dog lets after " + i, lets[i], x -> { Check.hill(x); x.drive(2); if (sacks > 0) {
                x.carry(0, sacks); } }, x -> x.houseOf(1, 6));
        }
    }

    private static void wrongNumbers() {
        Class<IndexOutOfBoundsException> index = IndexOutOfBoundsException.class;
        Class<IllegalArgumentException> argument = IllegalArgumentException.class;
        int[] none = {-1, 3, 8, Integer.MIN_VALUE, Integer.MAX_VALUE};
        for (int number : none) {
            Check.thrown("houseOf " + number, index, QueriesTest::evening, x -> x.houseOf(number, 0));
            Check.thrown("carrierOf " + number, index, QueriesTest::evening, x -> x.carrierOf(number, 0));
            Check.thrown("houseOf " + number + " and wrong what", index, QueriesTest::evening,
                x -> x.houseOf(number, 8));
            Check.thrown("carrierOf " + number + " and wrong what", index, QueriesTest::evening,
                x -> x.carrierOf(number, 4));
        }
        Check.thrown("houseOf what -1", argument, QueriesTest::evening, x -> x.houseOf(0, -1));
        Check.thrown("houseOf what 8", argument, QueriesTest::evening, x -> x.houseOf(0, 8));
        Check.thrown("carrierOf what -1", argument, QueriesTest::evening, x -> x.carrierOf(0, -1));
        Check.thrown("carrierOf what 4", argument, QueriesTest::evening, x -> x.carrierOf(0, 4));
        Check.thrown("account -1", argument, QueriesTest::evening, x -> x.account(-1));
        Check.thrown("account 16", argument, QueriesTest::evening, x -> x.account(16));
    }

    /** Arrears of 3, 6, 3, 0, 0, 3 and sacks due of 1, 0, 2, 0, 0, 2. */
    private static void sixHouses(CoalStairs x) {
        int[] orders = {2, 2, 3, 0, 0, 3};
        int[] sacks = {1, 2, 1, 0, 0, 1};
        x.carrier(9);
        for (int house = 0; house < 6; house++) {
            x.house(0, 0);
            x.order(house, orders[house]);
        }
        x.days(7);
        x.load(9);
        for (int house = 0; house < 6; house++) {
            x.drive(house + 1);
            if (sacks[house] > 0) {
                x.carry(0, sacks[house]);
            }
        }
    }

    private static void ranks() {
        int[] due = {1, 2, 5, 0, 3, 4};
        for (int i = 0; i < due.length; i++) {
            int rank = i;
            Check.answers("ranked " + i, due[i], QueriesTest::sixHouses, x -> x.ranked(rank));
        }
        Check.answers("ranked after paying", 2, x -> { sixHouses(x); x.pay(1, 6); }, x -> x.ranked(0));
        Check.answers("ranked after paying some", 1, x -> { sixHouses(x); x.pay(1, 3); }, x -> x.ranked(3));
        int[] none = {-1, 6, Integer.MIN_VALUE, Integer.MAX_VALUE};
        for (int rank : none) {
            Check.thrown("ranked " + rank, NoSuchElementException.class, QueriesTest::sixHouses, x -> x.ranked(rank));
        }
    }

    private static void sacksTwice() {
        Check.answers("carried", 8, QueriesTest::evening, CoalStairs::carried);
        Check.answers("carriedAgain", 8, QueriesTest::evening, CoalStairs::carriedAgain);
        Check.answers("carriedAgain, all paid", 8, x -> { evening(x); x.pay(0, 5); x.pay(1, 12); },
            CoalStairs::carriedAgain);
        Check.answers("carried, days later", 8, x -> { evening(x); x.days(9); }, CoalStairs::carried);
        Check.answers("carried by several", 7, QueriesTest::sevenByThree, CoalStairs::carried);
        Check.answers("carried with all carriers", 9, x -> { sevenByThree(x); x.carrier(9); x.days(7); x.bone();
            x.carry(3, 2); },
            CoalStairs::carried);
        Check.answers("carriedAgain by several", 7, QueriesTest::sevenByThree, CoalStairs::carriedAgain);
    }

    private static void sevenByThree(CoalStairs x) {
        Check.hill(x);
        x.drive(1);
        x.carry(0, 1);
        x.carry(1, 2);
        x.carry(2, 1);
        x.pay(0, 12);
        x.drive(3);
        x.bone();
        x.carry(1, 3);
    }

    private static void means() {
        Check.answers("meanArrears", 17f / 3f, QueriesTest::evening, CoalStairs::meanArrears);
        Check.answers("meanArrears of nothing", 0, Check::hill, CoalStairs::meanArrears);
        Check.answers("meanArrears, whole", 4, x -> { evening(x); x.pay(1, 5); }, CoalStairs::meanArrears);
        Check.thrown("meanArrears without houses", ArithmeticException.class, x -> x.carrier(1), CoalStairs::meanArrears);
        Check.answers("paidShare", 7.0 / 24.0, QueriesTest::evening, CoalStairs::paidShare);
        Check.answers("paidShare, none paid", 0, x -> { Check.hill(x); x.drive(1); x.carry(0, 1); },
            CoalStairs::paidShare);
        Check.answers("paidShare, all paid", 1, x -> { evening(x); x.pay(0, 5); x.pay(1, 12); }, CoalStairs::paidShare);
        Check.thrown("paidShare without sacks", ArithmeticException.class, Check::hill, CoalStairs::paidShare);
    }

    private static void accounts() {
        int[] due = {7, 3, 3, 0, 22, 70, 4, 17, 4, 27, 7, 2, 4, 2, 8, 3};
        for (int i = 0; i < due.length; i++) {
            int what = i;
            Check.answers("account " + i, due[i], x -> { evening(x); Check.append(x, "d1;"); }, x -> x.account(what));
        }
        Check.answers("account 3 at a house", 2, x -> { Check.hill(x); x.drive(2); }, x -> x.account(3));
    }
}
