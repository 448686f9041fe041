import java.util.NoSuchElementException;

/** Promise 1. */
public final class NewObjectTest {
    public static void main(String[] args) {
        int[] due = {0, 0, 0, 0, 0, 100, 0, 0, 0, 20, 0, 3, 4, 0, 0, 0};
        for (int what = 0; what < due.length; what++) {
            int account = what;
            Check.answers("account " + what, due[what], x -> { }, x -> x.account(account));
        }
        for (int shoe = 0; shoe < 4; shoe++) {
            int which = shoe;
            Check.answers("shoeOf " + shoe, 0, x -> { }, x -> x.shoeOf(which));
        }
        Check.answers("reach", 0, x -> { }, CoalStairs::reach);
        Check.answers("carried", 0, x -> { }, CoalStairs::carried);
        Check.answers("carriedAgain", 0, x -> { }, CoalStairs::carriedAgain);
        Check.answers("faultPosition", -1, x -> { }, CoalStairs::faultPosition);
        Check.thrown("reason", NoSuchElementException.class, x -> { }, x -> x.reason(0));
        Check.thrown("undo", IllegalStateException.class, x -> { }, CoalStairs::undo);
        Check.thrown("restore", IllegalStateException.class, x -> { }, CoalStairs::restore);
        Check.thrown("character", IndexOutOfBoundsException.class, x -> { }, x -> x.character(0));
        Check.thrown("ranked", NoSuchElementException.class, x -> { }, x -> x.ranked(0));
        Check.thrown("meanArrears", ArithmeticException.class, x -> { }, CoalStairs::meanArrears);
        Check.thrown("paidShare", ArithmeticException.class, x -> { }, CoalStairs::paidShare);
        Check.end();
    }
}
