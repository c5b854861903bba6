/** Counts answers that are due, and tells those that are not as due. */
final class Due {
    private int right = 0;
    private int wrong = 0;
    private int parts = 0;
    private String part = "";

    void part(String name) {
        part = name;
        parts++;
    }

    void due(String call, long got, long want) {
        if (got == want) {
            right++;
        } else {
            wrong++;
            System.out.println(part + ": " + call + " answered " + got + ", due is " + want);
        }
    }

    void holds(String what, boolean is) {
        due(what, is ? 1 : 0, 1);
    }

    /** Ends the test with exit code 1 if an answer was wrong. */
    void end() {
        System.out.println(right + " answers as due in " + parts + " parts, " + wrong + " not");
        if (wrong != 0 || right == 0) {
            System.exit(1);
        }
    }

    /** Sends a text's letters; what school() answers then. */
    static int tell(NeighboursMark x, String text) {
        for (int i = 0; i < text.length(); i++) {
            x.letter(text.charAt(i));
        }
        return x.school();
    }

    static NeighboursMark of(String text) {
        NeighboursMark x = new NeighboursMark();
        tell(x, text);
        return x;
    }
}
