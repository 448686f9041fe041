/** The calls of README.md, with the answers that it tells. */
public final class ReadmeTest {
    public static void main(String[] args) {
        Script.run("README.md",
            "house 3 1 = 0",
            "carrier 5 = 0",
            "order 0 4 = 0",
            "days 7 = 4",
            "load 10 = 10",
            "drive 1 = 4",
            "carry 0 2 = 4",
            "pay 0 5 = 1",
            "carry 0 1 refused 12 0",
            "text b;c0*2;d1",
            "commands = 3",
            "undo = 7",
            "save = 7",
            "restore = 7",
            "account 14 = 0",
            "line 0 = 6",
            "character 5 = z",
            "line! 0 = 0:2/1z");
        Check.end();
    }
}
