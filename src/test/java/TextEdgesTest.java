/** The edges of promises 26 to 31: the text buffer, commands, faults by place, reasons and the line. */
public final class TextEdgesTest {
    private static final String FAULT = "commands throws IllegalArgumentException";
    /** 60 characters, 23 commands; the last character is a number of days. */
    private static final String LONGEST = "g1;b;g2;b;g3;b;g4;b;g5;b;g6;b;g7;b;g8;b" + ";d1".repeat(7);
    private static final String[] EIGHT_DOGS = {"8 times house 0 2", "bones 9 = 12"};

    public static void main(String[] args) {
        buffer();
        emptyTexts();
        numbers();
        places();
        longTexts();
        outOfRange();
        allOrNone();
        faultPositions();
        reasons();
        lines();
        characters();
        Check.end();
    }

    private static void then(String name, String[] first, String... rows) {
        Script.run(name, Script.joined(first, rows));
    }

    /** Promise 26, "if the buffer contains 60 characters". */
    private static void buffer() {
        Script.run("the first, the sixtieth and one more", "append 100 = 1", "58 times append 49 = 59",
            "append 49 = 60", "append 49 throws IllegalStateException", "account 15 = 60", FAULT, "account 15 = 0",
            "append 100 = 1");
        Script.run("any character", "append 0 = 1", "append 255 = 2", "append 256 = 3", "append 65535 = 4",
            "append 32 = 5", FAULT, "faultPosition = 0");
        then("a full buffer that has refused one more", EIGHT_DOGS, "text " + LONGEST,
            "append 59 throws IllegalStateException", "commands = 23", "account 0 = 7", "append 100 = 1");
        Script.run("a text that was carried out has left nothing", "text d1", "commands = 1", "append 50 = 1", FAULT,
            "faultPosition = 0");
        Script.run("a text with a fault has left nothing", "text d1;", FAULT, "text d1", "commands = 1",
            "account 0 = 1");
        Script.run("a refused text has left nothing", "text d0", "commands refused 1 0", "text d1", "commands = 1");
    }

    /** "One or more commands": none is a fault at the length, 0. */
    private static void emptyTexts() {
        Script.run("an empty text", FAULT, "faultPosition = 0", "account 14 = 0",
            "reason 0 throws NoSuchElementException");
        Script.run("an empty text behind a sound one", "text d1", "commands = 1", "faultPosition = -1", FAULT,
            "faultPosition = 0", "account 14 = 1");
        fault(";", 0);
        fault("d1;", 3);
        fault("d1;;d1", 3);
        fault(";d1", 0);
    }

    private static void fault(String text, int position) {
        Script.run("the fault of " + text, "text " + text, FAULT, "faultPosition = " + position,
            "reason 0 throws NoSuchElementException", "account 0 = 0", "account 14 = 0");
    }

    /** "Sacks to load, coins and days have 1 or 2 digits, all other numbers one"; each text at each of its lengths. */
    private static void numbers() {
        String[] sound = {"g1", "l12", "c1*2", "b", "m1", "p1=12", "s1", "d12"};
        String[] mayEnd = {"01", "011", "0001", "1", "01", "00011", "01", "011"};
        for (int i = 0; i < sound.length; i++) {
            for (int length = 1; length < sound[i].length(); length++) {
                if (mayEnd[i].charAt(length - 1) == '0') {
                    fault(sound[i].substring(0, length), length);
                    fault(sound[i].substring(0, length) + ";d1", length);
                    fault("d1;" + sound[i].substring(0, length), 3 + length);
                }
            }
            fault(sound[i] + "1", sound[i].length());
            fault(sound[i] + " ", sound[i].length());
            fault(sound[i] + ";", sound[i].length() + 1);
            fault(sound[i] + ";;", sound[i].length() + 1);
            fault(sound[i] + sound[i], sound[i].length());
        }
        Script.run("one digit and two", "text l9;d9", "commands = 2", "text l01;d01", "commands = 2", "text l20;d10",
            "commands = 2", "account 4 = 30", "account 0 = 20");
        String[] owing = {"house 0 0", "order 0 4", "carrier 9", "days 28", "load 9", "drive 1", "carry 0 9"};
        then("coins of one digit and two", owing, "text p0=1;p0=02;p0=10", "commands = 3", "account 10 = 13");
    }

    /** "The index of its first character that cannot continue such a text, or the length if it ends too early." */
    private static void places() {
        char[] strange = {0, ' ', '/', ':', 'G', 'a', 'z', '*', '=', '-', '+', 127, 200, 255, 0x661, 0xffff};
        for (char character : strange) {
            strange("", character, 0);
            strange("g", character, 1);
            strange("c1", character == '*' ? 'x' : character, 2);
            strange("c1*", character, 3);
            strange("p1", character == '=' ? 'x' : character, 2);
            strange("p1=", character, 3);
            strange("p1=2", character, 4);
            strange("p1=23", character, 5);
            strange("l1", character, 2);
            strange("d12;", character, 4);
            strange("b", character, 1);
        }
        fault("c12", 2);
        fault("p12", 2);
        fault("c1=1", 2);
        fault("p1*1", 2);
        fault("g1;x;y", 3);
        fault("x;g1", 0);
    }

    private static void strange(String text, char character, int position) {
        CoalStairs x = new CoalStairs();
        Check.append(x, text + character + "1;d1");
        Check.due(text + (int) character, Calls.answer(x, "commands"), "IllegalArgumentException");
        Check.due("the fault of " + text + (int) character, x.faultPosition(), position);
    }

    private static void longTexts() {
        then("60 characters", EIGHT_DOGS, "text " + LONGEST, "account 15 = 60", "commands = 23", "faultPosition = -1",
            "account 14 = 8", "account 0 = 7", "account 11 = 4", "account 3 = 8");
        then("the last of them is refused", EIGHT_DOGS, "text " + LONGEST.substring(0, 59) + "0",
            "commands refused 1 0 22", "faultPosition = -1", "account 3 = 0", "account 11 = 12");
        then("a fault at the last character", EIGHT_DOGS, "text " + LONGEST.substring(0, 59) + ";", FAULT,
            "faultPosition = 59");
        Script.run("too early at 60", "text " + "b;".repeat(30), "account 15 = 60", FAULT, "faultPosition = 60");
        Script.run("too early at 60, in a command", "text " + "d1;".repeat(19) + "p0=", FAULT, "faultPosition = 60");
        Script.run("too early at 60, ahead of a sign", "text d10;" + "d1;".repeat(18) + "c0", FAULT,
            "faultPosition = 60");
        Script.run("too early, where a longer text went on", "text c0*1;b", "commands refused 3 0", "text c0", FAULT,
            "faultPosition = 2", "text p0=1;d1", "commands refused 3 0", "text p0=1;", FAULT, "faultPosition = 5");
        Script.run("too early at 59", "text " + "d1;".repeat(19) + "p0", FAULT, "faultPosition = 59");
        Script.run("30 commands", "text " + "b;".repeat(29) + "b", "account 15 = 59", "commands refused 7 0 0",
            "faultPosition = -1");
        Script.run("20 days of two digits", "text " + "d30;".repeat(14) + "d30", "account 15 = 59", "commands = 15",
            "account 0 = 450", "account 14 = 1");
    }

    /** Numbers that a text may hold and a command refuses: these are no faults. */
    private static void outOfRange() {
        String[] hill = {"house 0 1", "carrier 5"};
        String[] texts = {"g2", "g9", "g0", "l0", "l00", "l31", "l99", "c1*1", "c9*0", "c0*0", "c0*1", "b", "m0", "m1",
            "m9", "p1=1", "p9=0", "p0=0", "p0=00", "p0=1", "p0=99", "s0", "s3", "s4", "s9", "d0", "d00", "d31", "d99"};
        String[] due = {"3 2", "3 9", "4 0", "1 0", "1 0", "1 0", "1 0", "3 1", "3 9", "1 0", "7 0", "7 0", "7 0", "3 1",
            "3 9", "3 1", "3 9", "1 0", "1 0", "17 0", "17 0", "19 0", "19 3", "3 4", "3 9", "1 0", "1 0", "1 0", "1 0"};
        Check.due("as many reasons as texts", due.length, texts.length);
        for (int i = 0; i < texts.length; i++) {
            then(texts[i], hill, "text " + texts[i], "commands refused " + due[i], "faultPosition = -1");
            then("behind another, " + texts[i], hill, "text d1;" + texts[i], "commands refused " + due[i] + " 1",
                "account 0 = 0");
        }
        then("the most that is done", hill, "order 0 4", "text l30;d30;g1;c0*2;p0=6", "commands = 5",
            "account 10 = 6");
    }

    /** "If one is refused, none is carried out"; the numbers of the reason are those at that command. */
    private static void allOrNone() {
        String[] hill = {"house 0 0", "order 0 4", "carrier 5", "days 7"};
        then("the second load", hill, "text l30;l1", "commands refused 2 30 1", "account 4 = 0", "account 5 = 100",
            "account 14 = 4");
        then("arrears of the commands ahead", hill, "text d7;l9;g1;c0*5;c0*1", "commands refused 10 15 4",
            "account 0 = 7", "account 3 = 0", "account 6 = 4", "account 7 = 0", "carrierOf 0 1 = 0", "shoeOf 0 = 0",
            "account 13 = 0");
        then("a place of the commands ahead", hill, "text g1;l1", "commands refused 6 1 1", "account 3 = 0");
        then("coins of the commands ahead", hill, "text d7;l9;g1;c0*5;p0=9;p0=7", "commands refused 17 6 5",
            "account 9 = 20", "account 10 = 0");
        then("undo goes behind the refused text", hill, "text d7;d0", "commands refused 1 0 1", "undo = 3",
            "account 0 = 0");
        then("one change for all commands", hill, "text l9;g1;c0*4;p0=12", "commands = 4", "account 14 = 5",
            "undo = 4", "account 4 = 0", "account 3 = 0", "account 10 = 0");
        then("a fault, ahead of a refusal", hill, "text g9;x", FAULT, "faultPosition = 3",
            "reason 0 throws NoSuchElementException");
    }

    /** Promise 28, "-1 if that text had no fault or there was no such call". */
    private static void faultPositions() {
        Script.run("no such call", "faultPosition = -1", "text x", "faultPosition = -1");
        Script.run("the latest call", "text d1x", FAULT, "faultPosition = 2", "text d1", "faultPosition = 2",
            "commands = 1", "faultPosition = -1", "text x", FAULT, "faultPosition = 0", "text d0",
            "commands refused 1 0", "faultPosition = -1");
        Script.run("other calls leave it", "text d1;", FAULT, "days 1", "days 0 refused 1 0", "save", "undo",
            "restore", "faultPosition = 3");
    }

    /** Promise 29, and "with the index of the command of a text, from 0, or 0 for another call". */
    private static void reasons() {
        String none = " throws NoSuchElementException";
        String wrong = " throws IllegalArgumentException";
        Script.run("nothing was refused", "days 1", "reason 0" + none, "reason 1" + none, "reason 2" + none,
            "reason 3" + wrong, "reason -1" + wrong, "reason 2147483647" + wrong, "reason -2147483648" + wrong);
        Script.run("such numbers", "drive 5 refused 3 5", "reason 0 = 3", "reason 1 = 5", "reason 2 = 0",
            "reason 3" + wrong, "reason -1" + wrong, "reason 2147483647" + wrong, "reason -2147483648" + wrong);
        Script.run("the index of another call is 0", "text d1;d1;d0", "commands refused 1 0 2",
            "shoe 3 refused 19 3 0", "text d1;s9", "commands refused 3 9 1", "days 1", "reason 2 = 1");
        Script.run("a detail does not stay for the next reason", "shoe 9 refused 3 9", "days 0 refused 1 0");
        Script.run("what leaves it", "shoe 9 refused 3 9", "shoeOf 9 throws IndexOutOfBoundsException", FAULT,
            "undo throws IllegalStateException", "restore throws IllegalStateException", "save", "days 1", "undo",
            "restore", "reason 0 = 3", "reason 1 = 9", "reason 2 = 0");
    }

    /** Promise 30, "one # for each 3 footprints that are begun". */
    private static void lines() {
        Script.run("nothing", "house 0 0", "line 0 = 5", "line! 0 = 0:0/0");
        Script.run("each dog", "house 0 0", "house 0 1", "house 0 2", "line! 0 = 0:0/0", "line! 1 = 1:0/0z",
            "line! 2 = 2:0/0!");
        Script.run("dogs with bones", "house 0 1", "house 0 2", "drive 1", "bone", "drive 2", "bone",
            "line! 0 = 0:0/0b", "line! 1 = 1:0/0b", "days 1", "line! 0 = 0:0/0z", "line! 1 = 1:0/0!");
        Script.run("a sleepy dog that is awake", "house 0 1", "order 0 4", "carrier 5", "days 7", "load 2", "drive 1",
            "carry 0 2", "isQuiet 0 = false", "line! 0 = 0:2/6z");
        String[] door = {"house 0 0", "order 0 4", "carrier 5", "carrier 9", "days 30", "days 5", "load 30", "drive 1"};
        int[] sacks = {2, 3, 5, 6, 7, 8, 9};
        String[] due = {"0:18/6", "0:17/9#", "0:15/15#", "0:14/18##", "0:13/21###", "0:12/24###", "0:11/27####"};
        for (int i = 0; i < sacks.length; i++) {
            then("footprints", door, "carry 0 " + sacks[i], "line! 0 = " + due[i]);
        }
        then("mopped", door, "carry 0 9", "line! 0 = 0:11/27####", "mop 1", "line! 0 = 0:11/27");
        then("four footprints", door, "carry 0 3", "carry 1 5", "houseOf 0 5 = 4", "line! 0 = 0:12/24##");
        then("the longest", door, "carry 0 7", "pay 0 9", "carry 1 3", "houseOf 0 5 = 8", "pay 0 9", "carry 0 7",
            "houseOf 0 5 = 28", "houseOf 0 4 = 33", "line 0 = 16", "line! 0 = 0:3/33##########");
        Script.run("such houses", "7 times house 0 0", "house 0 1", "line! 7 = 7:0/0z",
            "line 8 throws IndexOutOfBoundsException", "line -1 throws IndexOutOfBoundsException",
            "line 2147483647 throws IndexOutOfBoundsException", "line -2147483648 throws IndexOutOfBoundsException",
            "character 0 = 7");
    }

    /** Promise 31, "the line, which is empty at first". */
    private static void characters() {
        String none = " throws IndexOutOfBoundsException";
        Script.run("an empty line", "character 0" + none, "character -1" + none, "house 0 0", "character 0" + none,
            "line 1" + none, "character 0" + none);
        Script.run("the first, the last and one more", "house 0 1", "line 0 = 6", "character 0 = 0", "character 5 = z",
            "character 6" + none, "character -1" + none, "character 2147483647" + none,
            "character -2147483648" + none);
        Script.run("a shorter line behind a longer one", "house 0 1", "house 0 0", "line 0 = 6", "line 1 = 5",
            "character 4 = 0", "character 5" + none, "character 0 = 1");
        Script.run("the line stays", "house 0 1", "save", "line 0", "undo", "character 5 = z", "restore",
            "character 5 = z", "drive 1", "bone", "character 5 = z", "line 0", "character 5 = b");
    }
}
