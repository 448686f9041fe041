import java.util.Arrays;

/**
 * Runs of calls as texts, on a new object: "carry 0 5 = 30" is a call with the answer that is due, "carry 0 6 refused
 * 13 36" one that is refused for a reason with a detail (and the index of a command, if it is not 0), "undo throws
 * IllegalStateException" one that throws, "house 3 0" one whose answer does not matter. "9 times load 1" makes a call
 * several times, "text d1;g1" appends each character, "line! 0 = 0:0/0" writes a line and reads it.
 */
final class Script {
    private final String name;
    private final String[] rows;

    private Script(String name, String[] rows) {
        this.name = name;
        this.rows = rows;
    }

    static void run(String name, String... rows) {
        Script script = new Script(name, rows);
        CoalStairs x = new CoalStairs();
        for (int i = 0; i < rows.length; i++) {
            if (rows[i].contains(" refused ") || rows[i].contains(" throws ")) {
                script.throwing(i);
            }
            script.row(x, i);
        }
    }

    static String[] joined(String[] first, String... then) {
        String[] all = Arrays.copyOf(first, first.length + then.length);
        System.arraycopy(then, 0, all, first.length, then.length);
        return all;
    }

    private void row(CoalStairs x, int index) {
        String row = rows[index];
        String before = row.split(" = | refused | throws ")[0];
        String got = called(x, before);
        String where = name + ": row " + index + ", " + row;
        if (row.contains(" = ")) {
            Check.due(where, got, row.substring(row.indexOf(" = ") + 3));
        } else if (row.contains(" throws ")) {
            Check.due(where, got, row.substring(row.indexOf(" throws ") + 8));
        } else if (row.contains(" refused ")) {
            Check.due(where, got, "UnsupportedOperationException");
            String due = row.substring(row.indexOf(" refused ") + 9);
            Check.due(where + ", the reason", reason(x), due.split(" ").length == 2 ? due + " 0" : due);
        } else if (got.endsWith("Exception")) {
            Check.fail(where + " threw " + got);
        }
    }

    private static String reason(CoalStairs x) {
        return Calls.answer(x, "reason", 0) + " " + Calls.answer(x, "reason", 1) + " " + Calls.answer(x, "reason", 2);
    }

    /** A row that throws leaves the state unchanged: seen on another object, for none may take too many calls. */
    private void throwing(int index) {
        CoalStairs x = new CoalStairs();
        for (int i = 0; i < index; i++) {
            called(x, rows[i].split(" = | refused | throws ")[0]);
        }
        boolean emptiesBuffer = rows[index].startsWith("commands");
        boolean keepsReason = rows[index].contains(" refused ");
        String before = emptiesBuffer ? State.undoable(x) + x.account(14) : State.of(x, !keepsReason);
        called(x, rows[index].split(" = | refused | throws ")[0]);
        String after = emptiesBuffer ? State.undoable(x) + x.account(14) : State.of(x, !keepsReason);
        Check.due(name + ": row " + index + ", the state afterwards", after, before);
        Check.due(name + ": row " + index + ", the buffer", emptiesBuffer ? x.account(15) : 0, 0);
    }

    private static String called(CoalStairs x, String call) {
        if (call.startsWith("text ")) {
            Check.append(x, call.substring(5));
            return "";
        }
        if (call.startsWith("line! ")) {
            return Check.line(x, Integer.parseInt(call.substring(6)));
        }
        String[] words = call.split(" ");
        int times = 1;
        if (words.length > 2 && words[1].equals("times")) {
            times = Integer.parseInt(words[0]);
            words = Arrays.copyOfRange(words, 2, words.length);
        }
        int[] numbers = new int[words.length - 1];
        for (int i = 0; i < numbers.length; i++) {
            numbers[i] = Integer.parseInt(words[i + 1]);
        }
        String answer = "";
        for (int i = 0; i < times; i++) {
            if (answer.endsWith("Exception")) {
                Check.fail(call + " threw " + answer + " ahead of the last time");
            }
            answer = Calls.answer(x, words[0], numbers);
        }
        return answer;
    }
}
