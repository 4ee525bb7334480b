/** Counts the answers that are not as due, and prints each of them. */
final class Check {
    private int wrong = 0;
    private int asked = 0;
    private String about = "";

    void about(String text) {
        about = text;
    }

    void due(String call, long got, long want) {
        asked++;
        if (got != want) {
            wrong++;
            System.out.println(about + ": " + call + " answered " + got + ", due is " + want);
        }
    }

    void due(String call, boolean got, boolean want) {
        due(call, got ? 1 : 0, want ? 1 : 0);
    }

    /** The byte as 0 .. 255. */
    void dueByte(BuildDisk x, int n, int i, int want) {
        due("sector(" + n + ", " + i + ")", x.sector(n, i) & 255, want);
    }

    void dueNoByte(BuildDisk x, int n, int i) {
        int thrown = 0;
        try {
            x.sector(n, i);
        } catch (ArrayIndexOutOfBoundsException e) {
            thrown = fromMachine(e) ? 2 : 1;
        }
        due("sector(" + n + ", " + i + ") throws (2: the machine did)", thrown, 1);
    }

    /** The machine's own exceptions of this class say which index it was. */
    private static boolean fromMachine(ArrayIndexOutOfBoundsException e) {
        return e.getMessage() != null && e.getMessage().startsWith("Index ");
    }

    boolean anyWrong() {
        return wrong != 0;
    }

    /** Ends the program, with exit code 1 if an answer was not as due. */
    void end() {
        System.out.println(asked + " answers, " + wrong + " not as due");
        if (wrong != 0) {
            System.exit(1);
        }
    }
}
