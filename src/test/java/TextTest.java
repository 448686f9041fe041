/** Promises 26 to 29: the text buffer, commands, faults by place, reasons. */
public final class TextTest {
    public static void main(String[] args) {
        appending();
        faults();
        strangeCharacters();
        sound();
        effects();
        allOrNone();
        reasons();
        Check.end();
    }

    private static String repeated(String text, int times) {
        return text.repeat(times);
    }

    private static void appending() {
        Check.answers("the first character", 1, x -> { }, x -> x.append('x'));
        Check.answers("the third character", 3, x -> Check.append(x, "ab"), x -> x.append((char) 0));
        Check.answers("the last character", 60, x -> Check.append(x, repeated("x", 59)), x -> x.append('x'));
        Check.thrown("one more", IllegalStateException.class, x -> Check.append(x, repeated("x", 60)),
            x -> x.append('x'));
        Check.answers("the length", 60, x -> Check.append(x, repeated("x", 60)), x -> x.account(15));
        CoalStairs x = new CoalStairs();
        Check.append(x, "d1" + repeated(";d1", 19) + "z");
        thrownByCommands(x, "a full buffer", IllegalArgumentException.class);
        Check.due("the fault of a full buffer", x.faultPosition(), 59);
        Check.due("empty afterwards", x.append('d'), 1);
    }

    private static void thrownByCommands(CoalStairs x, String name, Class<? extends RuntimeException> due) {
        String before = State.undoable(x) + x.account(14);
        try {
            Check.fail(name + " answered " + x.commands());
        } catch (RuntimeException e) {
            Check.due(name + " throws", e.getClass().getSimpleName(), due.getSimpleName());
        }
        Check.due(name + ": the state", State.undoable(x) + x.account(14), before);
        Check.due(name + ": the buffer", x.account(15), 0);
    }

    private static void fault(String text, int position) {
        CoalStairs x = new CoalStairs();
        Check.hill(x);
        Check.append(x, text);
        thrownByCommands(x, "\"" + text + "\"", IllegalArgumentException.class);
        Check.due("fault of \"" + text + "\"", x.faultPosition(), position);
    }

    private static void faults() {
        String[] texts = {"", "x", ";", " d1", "D1", "1", "*", "=",
            "g", "gx", "g;", "g12", "g1x", "g1;", "g1;;d1", "g1 ;d1", "g-1",
            "l", "lx", "l;", "l123", "l1x", "l12x", "l-1",
            "c", "cx", "c1", "c12", "c1;", "c1=2", "c1*", "c1*x", "c1*12", "c1*1*",
            "b1", "bb", "b*", "m", "m;", "m12", "m1*",
            "p", "px", "p1", "p12", "p1*2", "p1=", "p1=x", "p1=123", "p1=12=", "p1=;",
            "s", "sx", "s12", "s1=", "d", "dx", "d123", "d1x", "d;",
            "d1;d2;x", "d1;d2;c0*", "d1;p0=12;b;m0;q", "d1;l", "d12;d12;d123"};
        int[] positions = {0, 0, 0, 0, 0, 0, 0, 0,
            1, 1, 1, 2, 2, 3, 3, 2, 1,
            1, 1, 1, 3, 2, 3, 1,
            1, 1, 2, 2, 2, 2, 3, 3, 4, 4,
            1, 1, 1, 1, 1, 2, 2,
            1, 1, 2, 2, 2, 3, 3, 5, 5, 3,
            1, 1, 2, 2, 1, 1, 3, 2, 1,
            6, 9, 14, 4, 11};
        Check.due("as many positions as texts", positions.length, texts.length);
        for (int i = 0; i < texts.length && i < positions.length; i++) {
            fault(texts[i], positions[i]);
        }
        fault(repeated("d1;", 20), 60);
        fault(repeated("b;", 30), 60);
        fault(repeated("b;", 29) + "b1", 59);
        fault(repeated("d1;", 19) + "c1*", 60);
        fault("d10;" + repeated("d1;", 18) + "c1", 60);
        fault("d10;" + repeated("d1;", 18) + "p1", 60);
        fault("d1;d10;" + repeated("d1;", 17) + "gg", 59);
        afterALongerText("c1*", "c1", 2);
        afterALongerText("p1=1;p1=1", "p1", 2);
        afterALongerText("d1;d11", "d1;d", 4);
        afterALongerText("g1;c1*1", "g1;", 3);
    }

    /** What an earlier text left in the buffer does not continue a shorter one. */
    private static void afterALongerText(String longer, String text, int position) {
        CoalStairs x = new CoalStairs();
        Check.append(x, longer);
        try {
            x.commands();
        } catch (RuntimeException e) {
            Check.due("the buffer after " + longer, x.account(15), 0);
        }
        Check.append(x, text);
        thrownByCommands(x, text, IllegalArgumentException.class);
        Check.due("fault of " + text + " after " + longer, x.faultPosition(), position);
    }

    private static void strangeCharacters() {
        char[] none = {0, 1, '/', ':', '\u007f', (char) 200, (char) ('1' + 256), (char) 0x661, (char) 0xffff};
        for (char character : none) {
            fault("d" + character, 1);
            fault("d1" + character, 2);
            fault("c" + character, 1);
            fault("c1" + character, 2);
            fault("c1*" + character, 3);
            fault("" + character, 0);
        }
        fault("" + (char) ('d' + 256), 0);
        fault("b" + (char) (';' + 256), 1);
        fault("p1" + (char) ('=' + 256), 2);
        fault("d`", 1);
    }

    /** A text without a fault has none, whether it is refused or not. */
    private static void sound() {
        String[] done = {"d1", "d01", "d30", "d1;d2", "l1", "l30", "l07;l08", "d1" + repeated(";d1", 19)};
        int[] counts = {1, 1, 1, 2, 1, 1, 2, 20};
        for (int i = 0; i < done.length; i++) {
            CoalStairs x = new CoalStairs();
            Check.due("commands " + done[i], Check.commands(x, done[i]), counts[i]);
            Check.due("fault of " + done[i], x.faultPosition(), -1);
            Check.due("buffer after " + done[i], x.account(15), 0);
            Check.due("changes of " + done[i], x.account(14), 1);
        }
        String[] refused = {"d0", "d00", "d31", "d99", "l0", "l31", "g9", "g0", "c0*1", "b", "m0", "p0=1", "p9=99", "s0",
            "s9", "b" + repeated(";b", 29)};
        for (String text : refused) {
            CoalStairs x = new CoalStairs();
            Check.append(x, "x");
            thrownByCommands(x, "x", IllegalArgumentException.class);
            Check.due("fault of x", x.faultPosition(), 0);
            Check.append(x, text);
            thrownByCommands(x, text, UnsupportedOperationException.class);
            Check.due("fault of " + text, x.faultPosition(), -1);
        }
    }

    private static void same(String text, Check.Setup setup, Check.Setup methods) {
        CoalStairs one = new CoalStairs();
        setup.on(one);
        Check.commands(one, text);
        CoalStairs other = new CoalStairs();
        setup.on(other);
        methods.on(other);
        Check.due("\"" + text + "\"", State.undoable(one), State.undoable(other));
    }

    private static void atSecond(CoalStairs x) {
        Check.hill(x);
        x.drive(2);
    }

    private static void effects() {
        same("g3", Check::hill, x -> x.drive(3));
        same("g0", TextTest::atSecond, x -> x.drive(0));
        same("l7", x -> { }, x -> x.load(7));
        same("l12", x -> { }, x -> x.load(12));
        same("l3;l12", x -> { }, x -> { x.load(3); x.load(12); });
        same("c1*2", TextTest::atSecond, x -> x.carry(1, 2));
        same("c2*1", TextTest::atSecond, x -> x.carry(2, 1));
        same("b", TextTest::atSecond, CoalStairs::bone);
        same("b;c2*4;m0", TextTest::atSecond, x -> { x.bone(); x.carry(2, 4); x.mop(0); });
        same("m2", x -> { atSecond(x); x.bone(); x.carry(2, 3); }, x -> x.mop(2));
        same("p1=3", x -> { atSecond(x); x.carry(2, 2); }, x -> x.pay(1, 3));
        same("p1=06", x -> { atSecond(x); x.carry(2, 2); }, x -> x.pay(1, 6));
        same("p1=12", x -> { atSecond(x); x.bone(); x.carry(2, 4); }, x -> x.pay(1, 12));
        same("s3", x -> { atSecond(x); x.drive(0); }, x -> x.shoe(3));
        same("d3", TextTest::atSecond, x -> x.days(3));
        same("d25", TextTest::atSecond, x -> x.days(25));
        same("g1;c0*3;g2;b;c2*4;p1=11;g0;s0;d10", Check::hill, x -> { x.drive(1); x.carry(0, 3); x.drive(2); x.bone();
            x.carry(2, 4); x.pay(1, 11); x.drive(0); x.shoe(0); x.days(10); });
    }

    private static void refusedAt(String text, int why, int detail, int index) {
        CoalStairs x = new CoalStairs();
        Check.hill(x);
        Check.append(x, text);
        thrownByCommands(x, text, UnsupportedOperationException.class);
        Check.due(text + ": the reason", x.reason(0), why);
        Check.due(text + ": the detail", x.reason(1), detail);
        Check.due(text + ": the index", x.reason(2), index);
        x.undo();
        Check.due(text + ": the change before is undone", x.account(4), 0);
    }

    private static void allOrNone() {
        refusedAt("g9", 3, 9, 0);
        refusedAt("g0", 4, 0, 0);
        refusedAt("l1", 2, 30, 0);
        refusedAt("g1;l1", 6, 1, 1);
        refusedAt("g1;c0*5", 9, 4, 1);
        refusedAt("g1;c7*5", 3, 7, 1);
        refusedAt("g1;c0*4;c1*0", 1, 0, 2);
        refusedAt("g2;b;c1*4", 13, 40, 2);
        refusedAt("g2;c0*1;c1*2", 12, 1, 2);
        refusedAt("g2;b;b", 14, 1, 2);
        refusedAt("g1;m0", 18, 0, 1);
        refusedAt("g1;c0*4;p0=13", 17, 12, 2);
        refusedAt("g1;c0*4;p0=12;m0;g0;s1;d7;s1", 19, 1, 7);
        refusedAt("b;g1", 7, 0, 0);
        refusedAt("d31;g1", 1, 0, 0);
    }

    private static void reasons() {
        CoalStairs x = new CoalStairs();
        Check.append(x, "d1;d1;g4");
        thrownByCommands(x, "d1;d1;g4", UnsupportedOperationException.class);
        Check.due("index", x.reason(2), 2);
        Check.commands(x, "d1");
        Check.due("a text that is carried out leaves the reason", x.reason(1), 4);
        Check.append(x, "d1;x");
        thrownByCommands(x, "d1;x", IllegalArgumentException.class);
        Check.due("a fault leaves the reason", x.reason(0) * 100 + x.reason(1) * 10 + x.reason(2), 342);
        try {
            x.ranked(5);
        } catch (RuntimeException e) {
            Check.due("another exception leaves the reason", x.reason(0), 3);
        }
        try {
            x.shoe(1);
        } catch (UnsupportedOperationException e) {
            Check.due("another call has the index 0", x.reason(0) * 100 + x.reason(1) * 10 + x.reason(2), 1910);
        }
        x.days(1);
        Check.due("a successful call leaves the reason", x.reason(0), 19);
        Check.Setup refused = y -> {
            try {
                y.days(0);
            } catch (UnsupportedOperationException e) {
                Check.due("reason", y.reason(0), 1);
            }
        };
        Check.thrown("reason -1", IllegalArgumentException.class, refused, y -> y.reason(-1));
        Check.thrown("reason 3", IllegalArgumentException.class, refused, y -> y.reason(3));
        Check.thrown("reason 3 of nothing", IllegalArgumentException.class, y -> { }, y -> y.reason(3));
        Check.thrown("reason -1 of nothing", IllegalArgumentException.class, y -> { }, y -> y.reason(-1));
        for (int i = 0; i < 3; i++) {
            int what = i;
            Check.thrown("reason of nothing", java.util.NoSuchElementException.class, y -> y.days(1),
                y -> y.reason(what));
        }
    }
}
