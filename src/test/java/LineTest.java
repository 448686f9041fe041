/** Promises 30 and 31: the line and its characters. */
public final class LineTest {
    public static void main(String[] args) {
        lines();
        characters();
        Check.end();
    }

    private static void line(String due, int house, Check.Setup setup) {
        CoalStairs x = new CoalStairs();
        setup.on(x);
        String before = State.undoable(x);
        Check.due("line", Check.line(x, house), due);
        Check.due("the state after line", State.undoable(x), before);
    }

    /** The example of the document: a fierce dog whose bone is gone, and five footprints. */
    private static void example(CoalStairs x) {
        Check.hill(x);
        x.order(2, 3);
        x.days(7);
        x.drive(1);
        x.carry(0, 2);
        x.drive(3);
        x.bone();
        x.carry(0, 4);
    }

    private static Check.Setup footprints(int fourth) {
        return x -> {
            x.house(0, 0);
            x.order(0, 4);
            x.carrier(9);
            x.days(30);
            x.load(30);
            x.drive(1);
            x.carry(0, fourth);
        };
    }

    private static void lines() {
        line("0:0/0", 0, x -> x.house(0, 0));
        line("0:0/0z", 0, x -> x.house(0, 1));
        line("0:0/0!", 0, x -> x.house(0, 2));
        line("1:4/0z", 1, Check::hill);
        line("2:4/0!", 2, Check::hill);
        line("0:4/0", 0, Check::hill);
        line("2:3/12##b", 2, LineTest::example);
        line("2:3/12##!", 2, x -> { example(x); x.days(1); });
        line("1:4/0b", 1, x -> { Check.hill(x); x.drive(2); x.bone(); });
        line("1:2/6z", 1, x -> { Check.hill(x); x.drive(2); x.carry(0, 2); });
        line("7:0/0z", 7, x -> { for (int i = 0; i < 8; i++) { x.house(0, i == 7 ? 1 : 2); } });
        line("0:14/6", 0, footprints(2));
        line("0:13/9#", 0, footprints(3));
        line("0:11/15#", 0, footprints(5));
        line("0:10/18##", 0, footprints(6));
        line("0:8/24###", 0, footprints(8));
        line("0:7/27####", 0, footprints(9));
        line("0:7/27", 0, x -> { footprints(9).on(x); x.mop(0); });
    }

    private static void characters() {
        Check.answers("character 0", '1', x -> { Check.hill(x); x.line(1); }, x -> x.character(0));
        Check.answers("the last character", 'z', x -> { Check.hill(x); x.line(1); }, x -> x.character(5));
        Check.answers("the length", 6, Check::hill, x -> x.line(1));
        Check.answers("in place of the line before", 5, x -> { Check.hill(x); x.line(1); }, x -> x.line(0));
        Check.answers("the line stays as it was written", '4', x -> { Check.hill(x); x.line(1); x.days(7); },
            x -> x.character(2));
        Class<IndexOutOfBoundsException> index = IndexOutOfBoundsException.class;
        Check.thrown("beyond the line", index, x -> { Check.hill(x); x.line(1); x.line(0); }, x -> x.character(5));
        Check.thrown("character -1", index, x -> { Check.hill(x); x.line(1); }, x -> x.character(-1));
        Check.thrown("the most", index, x -> { Check.hill(x); x.line(1); }, x -> x.character(Integer.MAX_VALUE));
        Check.thrown("line -1", index, x -> { Check.hill(x); x.line(1); }, x -> x.line(-1));
        Check.thrown("line 3", index, x -> { Check.hill(x); x.line(1); }, x -> x.line(3));
        Check.thrown("line of nothing", index, x -> { }, x -> x.line(0));
    }
}
