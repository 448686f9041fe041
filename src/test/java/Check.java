/** What the tests share: each check makes its own object, so that none is used for more than 512 calls. */
final class Check {
    interface Setup {
        void on(CoalStairs x);
    }

    interface Call {
        double on(CoalStairs x);
    }

    private static int wrong = 0;

    private Check() {
    }

    static void due(String name, double got, double want) {
        if (got != want) {
            fail(name + " answered " + got + ", due is " + want);
        }
    }

    static void due(String name, String got, String want) {
        if (!got.equals(want)) {
            fail(name + " answered " + got + ", due is " + want);
        }
    }

    static void fail(String what) {
        wrong++;
        System.out.println(what);
    }

    static void answers(String name, double want, Setup setup, Call call) {
        CoalStairs x = new CoalStairs();
        setup.on(x);
        try {
            due(name, call.on(x), want);
        } catch (RuntimeException e) {
            fail(name + " threw " + e + ", due is " + want);
        }
    }

    static void refused(String name, int why, int detail, Setup setup, Call call) {
        CoalStairs x = thrown(name, UnsupportedOperationException.class, setup, call);
        try {
            due(name + ": the reason", x.reason(0), why);
            due(name + ": the detail", x.reason(1), detail);
            due(name + ": the index of the command", x.reason(2), 0);
        } catch (RuntimeException e) {
            fail(name + ": the reason is not kept");
        }
    }

    /** The call throws just this and changes nothing (but the reason, where it is kept). */
    static CoalStairs thrown(String name, Class<? extends RuntimeException> due, Setup setup, Call call) {
        CoalStairs x = new CoalStairs();
        setup.on(x);
        boolean keepsReason = due == UnsupportedOperationException.class;
        String before = State.of(x, !keepsReason);
        try {
            fail(name + " answered " + call.on(x) + ", due is " + due.getSimpleName());
        } catch (RuntimeException e) {
            due(name + " throws", e.getClass().getSimpleName(), due.getSimpleName());
        }
        due(name + ": the state afterwards", State.of(x, !keepsReason), before);
        return x;
    }

    static void append(CoalStairs x, String text) {
        for (int i = 0; i < text.length(); i++) {
            x.append(text.charAt(i));
        }
    }

    static int commands(CoalStairs x, String text) {
        append(x, text);
        return x.commands();
    }

    static String line(CoalStairs x, int house) {
        int length = x.line(house);
        StringBuilder line = new StringBuilder();
        for (int i = 0; i < length; i++) {
            line.append(x.character(i));
        }
        return line.toString();
    }

    /**
     * Houses 0 (3 flights, no dog), 1 (9 flights, sleepy), 2 (no flights, fierce), carriers 0, 1 and 2 of the
     * strengths 5, 1 and 9, 4 sacks due at each house, 30 sacks on the cart, day 7.
     */
    static void hill(CoalStairs x) {
        x.house(3, 0);
        x.house(9, 1);
        x.house(0, 2);
        x.carrier(5);
        x.carrier(1);
        x.carrier(9);
        for (int house = 0; house < 3; house++) {
            x.order(house, 4);
        }
        x.days(7);
        x.load(30);
    }

    static void end() {
        if (wrong != 0) {
            System.out.println(wrong + " wrong");
            System.exit(1);
        }
    }
}
