/** Promises 35 to 37: undo, save and restore. */
public final class UndoTest {
    public static void main(String[] args) {
        eachChange();
        latestEight();
        refusedCalls();
        whatStays();
        snapshots();
        Check.end();
    }

    private static void evening(CoalStairs x) {
        Check.hill(x);
        x.drive(1);
        x.carry(0, 3);
        x.drive(2);
    }

    private static void undone(String name, Check.Setup setup, Check.Setup change) {
        CoalStairs x = new CoalStairs();
        setup.on(x);
        String before = State.undoable(x);
        int changes = x.account(14);
        change.on(x);
        Check.due(name + ": changes that can be undone", x.account(14), Math.min(8, changes + 1));
        if (State.undoable(x).equals(before)) {
            Check.fail(name + " changed nothing");
        }
        Check.due(name + ": undo", x.undo(), Math.min(7, changes));
        Check.due(name + " undone", State.undoable(x), before);
        Check.due(name + ": changes then", x.account(14), Math.min(7, changes));
    }

    private static void eachChange() {
        undone("house", x -> { }, x -> x.house(1, 1));
        undone("house above others", UndoTest::evening, x -> x.house(1, 1));
        undone("order", UndoTest::evening, x -> x.order(0, 1));
        undone("carrier", UndoTest::evening, x -> x.carrier(1));
        undone("load", x -> x.load(1), x -> x.load(1));
        undone("drive up", UndoTest::evening, x -> x.drive(3));
        undone("drive down", UndoTest::evening, x -> x.drive(0));
        undone("carry", UndoTest::evening, x -> x.carry(1, 2));
        undone("bone", UndoTest::evening, CoalStairs::bone);
        undone("bones", UndoTest::evening, x -> x.bones(2));
        undone("mop", x -> { evening(x); x.drive(1); }, x -> x.mop(1));
        undone("pay", UndoTest::evening, x -> x.pay(0, 5));
        undone("shoe", x -> { evening(x); x.drive(0); }, x -> x.shoe(1));
        undone("days", UndoTest::evening, x -> x.days(30));
        undone("days with a bone", x -> { evening(x); x.carry(1, 1); x.bone(); }, x -> x.days(1));
        undone("commands", UndoTest::evening, x -> Check.commands(x, "b;c0*2;p1=4;g3;d8"));
        Check.answers("an order that stays the same can be undone", 0, x -> { x.house(0, 0); x.order(0, 0); x.undo(); },
            x -> x.undo());
        Check.answers("a house that was undone is new", 0, x -> { x.house(5, 2); x.order(0, 3); x.days(7); x.drive(1);
            x.bone(); for (int i = 0; i < 5; i++) { x.undo(); } x.house(1, 0); }, x -> x.houseOf(0, 2)
                + x.houseOf(0, 3) + x.houseOf(0, 1) + x.account(3) + x.account(0));
    }

    private static void latestEight() {
        CoalStairs x = new CoalStairs();
        for (int i = 1; i <= 11; i++) {
            x.load(1);
            Check.due("changes after " + i, x.account(14), Math.min(8, i));
        }
        for (int left = 7; left >= 0; left--) {
            Check.due("undo", x.undo(), left);
            Check.due("sacks on the cart", x.account(4), 3 + left);
        }
        Check.thrown("undo of a ninth", IllegalStateException.class, y -> {
            for (int i = 0; i < 9; i++) {
                y.load(1);
            }
            for (int i = 0; i < 8; i++) {
                y.undo();
            }
        }, CoalStairs::undo);
        Check.thrown("undo of nothing", IllegalStateException.class, y -> { }, CoalStairs::undo);
        x.load(5);
        x.load(6);
        Check.due("undo after new changes", x.undo(), 1);
        Check.due("sacks after new changes", x.account(4), 8);
        Check.due("undo of the first new change", x.undo(), 0);
        Check.due("sacks of old", x.account(4), 3);
    }

    private static void refused(CoalStairs x, Check.Setup call) {
        try {
            call.on(x);
            Check.fail("is not refused");
        } catch (UnsupportedOperationException e) {
            Check.due("refused", x.reason(0) > 0 ? 1 : 0, 1);
        }
    }

    private static void refusedCalls() {
        CoalStairs x = new CoalStairs();
        for (int i = 0; i < 12; i++) {
            x.load(1);
            refused(x, y -> y.load(99));
            refused(x, y -> y.house(0, 3));
            refused(x, y -> Check.commands(y, "l1;l1;d1;d0"));
        }
        Check.due("changes after refused calls", x.account(14), 8);
        for (int left = 7; left >= 0; left--) {
            Check.due("undo among refused calls", x.undo(), left);
            refused(x, y -> y.load(99));
            refused(x, y -> Check.commands(y, "l1;g1"));
            Check.due("sacks among refused calls", x.account(4), 4 + left);
            Check.due("the day among refused calls", x.account(0), 0);
        }
    }

    private static void whatStays() {
        CoalStairs x = new CoalStairs();
        x.house(0, 1);
        x.save();
        x.order(0, 2);
        Check.line(x, 0);
        refused(x, y -> y.days(31));
        try {
            Check.commands(x, "d1;x");
        } catch (IllegalArgumentException e) {
            Check.append(x, "d2;");
        }
        for (int i = 0; i < 2; i++) {
            if (i == 0) {
                x.undo();
            } else {
                x.restore();
            }
            Check.due("the text stays", x.account(15), 3);
            Check.due("the fault position stays", x.faultPosition(), 3);
            Check.due("the reason stays", x.reason(0), 1);
            Check.due("the line stays", x.character(5), 'z');
        }
        Check.append(x, "d3");
        Check.due("the text that stayed", x.commands(), 2);
        Check.due("the day of the text that stayed", x.account(0), 5);
    }

    private static void snapshots() {
        Check.thrown("no snapshot", IllegalStateException.class, UndoTest::evening, CoalStairs::restore);
        Check.answers("save", 7, UndoTest::evening, CoalStairs::save);
        Check.answers("save changes nothing", 8, x -> { evening(x); x.save(); }, x -> x.account(14));
        CoalStairs x = new CoalStairs();
        evening(x);
        x.carry(1, 1);
        x.bone();
        String saved = State.undoable(x);
        x.save();
        Check.due("the state after save", State.undoable(x), saved);
        x.house(1, 1);
        x.carrier(4);
        x.days(8);
        x.drive(3);
        Check.due("restore", x.restore(), 7);
        Check.due("restored", State.undoable(x), saved);
        Check.due("restore forgets the changes", x.account(14), 0);
        x.days(3);
        Check.due("undo after restore", x.undo(), 0);
        Check.due("undone after restore", State.undoable(x), saved);
        x.days(3);
        Check.due("the snapshot is kept", x.restore(), 7);
        Check.due("restored again", State.undoable(x), saved);
        x.days(4);
        Check.due("save again", x.save(), 11);
        x.days(1);
        x.undo();
        Check.due("undo does not belong to the snapshot", x.account(14), 1);
        Check.due("restore the later one", x.restore(), 11);
        Check.thrown("undo after restore", IllegalStateException.class, y -> { evening(y); y.save(); y.restore(); },
            CoalStairs::undo);
        Check.answers("undo does not touch the snapshot", 9, y -> { y.days(9); y.save(); y.undo(); },
            CoalStairs::restore);
        Check.answers("restore a house in place of another", 52, y -> { y.house(5, 2); y.save(); y.undo();
            y.house(1, 0); y.restore(); }, y -> y.houseOf(0, 0) * 10 + y.houseOf(0, 1));
        Check.answers("restore a carrier in place of another", 7, y -> { y.carrier(7); y.save(); y.undo();
            y.carrier(1); y.restore(); }, y -> y.carrierOf(0, 0));
        Check.answers("save on day 0", 0, y -> { }, CoalStairs::save);
        Check.answers("restore a new object", 0, y -> { y.save(); evening(y); y.restore(); }, y -> y.account(1));
    }
}
