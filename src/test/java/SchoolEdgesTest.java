/** "Terms", its first part and how a SCHOOL is told: each sentence that names a range, a first state or a fault. */
public final class SchoolEdgesTest {
    private static final Due d = new Due();
    private static final String DIGITS = "0123456789";
    private static final String FIRST = "phlrwxm";

    public static void main(String[] args) {
        pupils();
        kinds();
        seats();
        hours();
        lawsAndPass();
        letters();
        statements();
        changes();
        lettersThatGoOn();
        ends();
        kindsOfFault();
        allOrNothing();
        d.end();
    }

    private static void edge(String sentence, String run) {
        Script.run(d, sentence, run);
    }

    private static void pupils() {
        edge("PUPILS 0 .. 5 as they come: nobody at first", "count(0)=0 pupil(0,0)=-1 pupil(-1,0)=-1");
        edge("PUPILS 0 .. 5 as they come: numbers in the order of STATEMENTS",
            "\"ps10;pl21;ph32;pt43;pb54;po65;\"=6 pupil(0,1)=1 pupil(1,1)=2 pupil(2,1)=3 pupil(3,1)=4 pupil(4,1)=5 "
            + "pupil(5,1)=6 pupil(0,2)=0 pupil(5,2)=5");
        edge("PUPILS as they come: a second SCHOOL's behind the first's",
            "\"ps10;\"=1 \"pl20;\"=1 count(0)=2 pupil(0,1)=1 pupil(1,1)=2");
        edge("6 at most: the sixth is taken, the seventh not",
            "\"ps11;ps11;ps11;ps11;ps11;\"=5 pupil(5,0)=-1 \"ps11;\"=1 pupil(5,0)=0 pupil(6,0)=-1 "
            + "\"ps11;\"=-2000 count(0)=6 pupil(6,0)=-1");
        edge("6 at most: seven in one SCHOOL", "\"ps11;ps11;ps11;ps11;ps11;ps11;ps11;\"=-2030 count(0)=0");
        edge("6 at most: six in one SCHOOL", "\"ps11;ps11;ps11;ps11;ps11;ps11;\"=6 count(0)=6");
        for (char c = '0'; c <= '9'; c++) {
            int v = c - '0';
            edge("QUICK (0 .. 9): " + c, "\"ps" + c + "5;\"=1 pupil(0,1)=" + v + " pupil(0,2)=5");
            edge("TEACHES (0 .. 9): " + c, "\"ps5" + c + ";\"=1 pupil(0,2)=" + v + " pupil(0,1)=5");
        }
        edge("QUICK (0 .. 9): the signs beside digits", "\"ps/5;\"=-1002 \"ps:5;\"=-1002 count(0)=0");
        edge("TEACHES (0 .. 9): the signs beside digits", "\"ps5/;\"=-1003 \"ps5:;\"=-1003 count(0)=0");
        edge("SICK (0, 1): 0 at first, both sides refused",
            "\"ps11;\" pupil(0,3)=0 sick(0,-1)=-2 sick(0,2)=-2 sick(0,0)=0 sick(0,1)=0 sick(0,1)=1 pupil(0,3)=1");
        edge("SICK: a PUPIL that comes is well, whoever else is not",
            "\"ps11;\" sick(0,1) \"ps11;\" pupil(0,3)=1 pupil(1,3)=0");
        // The place of a PUPIL that is no more is used again.
        edge("SICK: a PUPIL that comes is well, though one with its number was SICK before the IMAGE came on",
            "image() \"ps11;\" sick(0,1) on()=0 \"ps11;\" pupil(0,3)=0");
    }

    private static void kinds() {
        for (int c = 0; c <= 255; c++) {
            int kind = "slhtbo".indexOf(c);
            edge("a letter of a KIND: " + c, "letter(112) letter(" + c + ") letter(49) letter(49) letter(59) "
                + (kind >= 0 ? "school()=1 pupil(0,0)=" + kind : "school()=-1001 count(0)=0"));
        }
    }

    private static void seats() {
        String text = "";
        for (int n = 1; n <= 6; n++) {
            text += "ps11;";
            StringBuilder ring = new StringBuilder("\"" + text + "\"=" + n);
            StringBuilder row = new StringBuilder("\"w;" + text + "\"=" + (n + 1));
            for (int p = 0; p < n; p++) {
                ring.append(" pupil(" + p + ",7)=" + (p + 1) % n);
                row.append(" pupil(" + p + ",7)=" + (p + 1 < n ? p + 1 : -9));
            }
            edge("in a RING the first sits to the left of the last: " + n, ring.toString());
            edge("in a ROW nobody does: " + n, row.toString());
        }
        edge("one alone to its own left", "\"ps35;\" pupil(0,7)=0 pupil(0,6)=0 learn(0,1) knows(0)=8");
        edge("in a ROW nobody does: one alone", "\"w;ps35;\" pupil(0,7)=-9 pupil(0,6)=0 learn(0,1) knows(0)=3");
        edge("who comes next in it sits to the left: by SEATS, not by numbers",
            "\"ps11;ps11;ps11;ps11;\" swap(0,3) swap(1,3) seats=1,3,2,0 pupil(1,7)=3 pupil(3,7)=2 pupil(2,7)=0 "
            + "pupil(0,7)=1 \"w;\" pupil(0,7)=-9 pupil(1,7)=3");
        edge("\"r\" (a RING, so at first)", "count(5)=1 \"r;\"=1 count(5)=1");
        edge("\"w\" (a ROW): and back", "\"ps11;ps11;w;\"=3 count(5)=0 pupil(1,7)=-9 \"w;\"=1 count(5)=0 "
            + "\"r;\"=1 count(5)=1 pupil(1,7)=0 \"r;w;\"=2 count(5)=0 \"w;r;\"=2 count(5)=1");
        edge("a PUPIL more in a ROW sits to the left of who was last",
            "\"w;ps11;\" pupil(0,7)=-9 \"ps11;\" pupil(0,7)=1 pupil(1,7)=-9");
        edge("a PUPIL more in a RING has the first to its left",
            "\"ps11;\" pupil(0,7)=0 \"ps11;\" pupil(0,7)=1 pupil(1,7)=0");
    }

    private static void hours() {
        edge("HOURS (2 at first)", "count(1)=2 \"ps11;\" learns=2 learn(0,3)=-6");
        for (char c = '0'; c <= '9'; c++) {
            boolean taken = c >= '1' && c <= '3';
            edge("HOURS (1 .. 3 a week): h" + c, "\"ps11;\" \"h" + c + ";\"="
                + (taken ? "1 count(1)=" + c + " learns=" + c : "-2000 count(1)=2 learns=2"));
        }
        edge("together HOURS",
            "\"h3;ps11;\" learns=3 learn(0,0)=3 learns=0 learn(0,1)=0 learns=1 learn(0,2)=1 learns=2");
        edge("all LEARN at first", "\"h3;pl11;\" pupil(0,4)=3 pupil(0,5)=0 \"po11;\" learns=3,3");
        edge("\"h\" HOURS: all LEARN these then",
            "\"h3;ps11;ps11;\" learn(0,0) learn(1,1) \"h1;\"=1 learns=1,1 learn(0,0) \"h2;\"=1 learns=2,2");
        edge("\"h\" HOURS: all LEARN these then, though they are what they were",
            "\"ps11;ps11;\" learn(0,0) learn(1,1) \"h2;\"=1 learns=2,2");
        edge("\"h\" HOURS: for those who come behind it, too", "\"h1;ps11;h3;ps11;\"=4 learns=3,3");
        edge("\"h\" HOURS: a SICK one, too", "\"ps11;\" sick(0,1) learn(0,0) \"h3;\" learns=3 pupil(0,3)=1");
        edge("\"h\" HOURS: of nobody", "\"h3;\"=1 count(1)=3 \"ps11;\" learns=3");
        for (int h = 1; h <= 3; h++) {
            edge("LEARN, TEACH (together HOURS): when weeks have gone by, too",
                "\"h" + h + ";ps11;pl11;ph11;pt11;pb19;po11;\" "
                + "learn(5,0) week()=1 learns=" + h + ",0," + (h - h / 2) + "," + h + ",0,0");
        }
    }

    private static void lawsAndPass() {
        edge("LAW (1 at first)", "count(3)=1");
        for (char c = '0'; c <= '9'; c++) {
            edge("\"l\" LAW (a digit, 0 .. 6): l" + c,
                "\"l" + c + ";\"=" + (c <= '6' ? "1 count(3)=" + c : "-2000 count(3)=1"));
        }
        edge("PASS (0 .. 99: 10 at first)", "count(4)=10");
        edge("\"m\" PASS (1 or 2 digits): the least and the greatest of each",
            "\"m0;\"=1 count(4)=0 \"m9;\"=1 count(4)=9 \"m10;\"=1 count(4)=10 \"m99;\"=1 count(4)=99");
        edge("\"m\" PASS (1 or 2 digits): none, three", "\"m;\"=-1001 \"m100;\"=-1003 \"m001;\"=-1003 count(4)=10");
        edge("Numbers may begin with 0", "\"m00;\"=1 count(4)=0 \"m09;\"=1 count(4)=9 \"m01;\"=1 count(4)=1 "
            + "\"ps00;\"=1 pupil(0,1)=0 pupil(0,2)=0 \"l0;\"=1 count(3)=0");
        edge("a digit: no second one for HOURS and LAW", "\"h02;\"=-1002 \"l01;\"=-1002 count(1)=2 count(3)=1");
        edge("WEEK (0 at first)", "count(2)=0 \"ps11;\" count(2)=0 week()=1 \"ps11;\" count(2)=1");
    }

    private static void letters() {
        StringBuilder full = new StringBuilder();
        for (int n = 1; n <= 64; n++) {
            full.append(" letter(" + (n % 2 == 1 ? 'r' + 0 : ';' + 0) + ")=" + n);
        }
        edge("64 at most: the 64th is taken, the 65th not",
            full + " count(7)=64 letter(114)=-6 letter(59)=-6 count(7)=64 "
            + "school()=32");
        edge("64 at most: anew when they are no more",
            full + " school()=32 count(7)=0 letter(114)=1 " + "letter(59)=2 school()=1");
        edge("64 at most: letters that come in two runs become one SCHOOL",
            "letter(104)=1 count(1)=2 letter(51)=2 count(7)=2 letter(59)=3 count(1)=2 school()=1 count(1)=3 "
            + "count(7)=0");
        edge("64 letters, the last STATEMENT counts", "\"" + "r;".repeat(28) + "m12;m13;\"=30 count(4)=13");
        edge("64 letters, the end lacks", "\"" + "r;".repeat(30) + "m123\"=-1063 \"" + "r;".repeat(31) + "m1\"=-1064");
        edge("64 letters, the last is wrong", "\"" + "r;".repeat(31) + "rr\"=-1063");
        edge("64 letters, the last STATEMENT is not as it must be", "\"" + "r;".repeat(30) + "x00;\"=-2060");
    }

    private static void statements() {
        edge("At least one STATEMENT: no letter", "school()=-1000 count(7)=0 school()=-1000");
        edge("At least one STATEMENT: one", "\"r;\"=1");
        edge("At least one STATEMENT: only its end", "\";\"=-1000");
        edge("each with \";\" behind: the last, too",
            "\"ps11\"=-1004 \"h2\"=-1002 \"l2\"=-1002 \"r\"=-1001 \"w\"=-1001 \"x01\"=-1003 \"m1\"=-1002 "
            + "\"m12\"=-1003 count(0)=0");
        edge("each with \";\" behind: not two", "\"r;;\"=-1002 \"r;;r;\"=-1002");
        edge("each with \";\" behind: none between", "\"rw;\"=-1001 \"h2l3;\"=-1002 \"ps11ps11;\"=-1004");
        edge("on the last SEAT: behind those who changed SEATS", "\"ps11;ps11;x01;ps11;\"=4 seats=1,0,2");
        edge("on the last SEAT: the sixth", "\"ps11;ps11;ps11;ps11;ps11;\" swap(0,4) \"ps11;\" seats=4,1,2,3,0,5");
        edge("STATEMENTS one behind the other: the last of several holds",
            "\"h3;h1;\"=2 count(1)=1 \"l3;l6;\"=2 count(3)=6 \"m3;m77;\"=2 count(4)=77");
        edge("the answer is how many STATEMENTS, not letters or PUPILS",
            "\"ps11;\"=1 \"m99;\"=1 \"h3;w;l4;m07;ps52;pl37;ph04;x02;\"=8");
    }

    private static void changes() {
        edge("\"x\" two PUPILS: they change SEATS", "\"ps11;ps11;ps11;x02;\"=4 seats=2,1,0 \"x20;\"=1 seats=0,1,2");
        edge("\"x\": PUPILS, not SEATS", "\"ps11;ps11;ps11;x02;x01;\"=5 seats=2,0,1");
        edge("no such PUPIL: nobody", "\"x01;\"=-2000 \"x00;\"=-2000");
        edge("no such PUPIL: either one, with one", "\"ps11;\" \"x01;\"=-2000 \"x10;\"=-2000");
        edge("no such PUPIL: the last there is and the first there is not, with 6",
            "\"ps11;ps11;ps11;ps11;ps11;ps11;\" \"x05;\"=1 seats=5,1,2,3,4,0 \"x56;\"=-2000 \"x65;\"=-2000 "
            + "\"x09;\"=-2000 "
            + "\"x90;\"=-2000 seats=5,1,2,3,4,0");
        edge("no such PUPIL: one that comes only behind it", "\"ps11;x01;ps11;\"=-2005 count(0)=0");
        edge("no such PUPIL: one that has come ahead of it is one", "\"ps11;ps11;x01;\"=3 \"ps11;x12;\"=2 seats=2,0,1");
        edge("one twice", "\"ps11;ps11;\" \"x00;\"=-2000 \"x11;\"=-2000 \"r;x11;\"=-2002 seats=0,1");
    }

    /** Behind each beginning all 256 letters are tried: those that go on, and all others at their place. */
    private static void lettersThatGoOn() {
        String[][] goOn = {
            {"", FIRST}, {"r;", FIRST}, {"p", "slhtbo"}, {"pb", DIGITS}, {"pb1", DIGITS}, {"pb11", ";"}, {"h", DIGITS},
            {"h1", ";"}, {"l", DIGITS}, {"l1", ";"}, {"r", ";"}, {"w", ";"}, {"x", DIGITS}, {"x0", DIGITS},
            {"x01", ";"},
            {"m", DIGITS}, {"m1", DIGITS + ";"}, {"m12", ";"}, {"m0", DIGITS + ";"}, {"h9;x", DIGITS}};
        for (String[] row : goOn) {
            d.part("the first letter with which no SCHOOL can go on: behind \"" + row[0] + "\"");
            for (int c = 0; c <= 255; c++) {
                NeighboursMark x = new NeighboursMark();
                for (char before : row[0].toCharArray()) {
                    x.letter(before);
                }
                x.letter(c);
                // What would be wrong behind the end or behind the fault does not come into it.
                x.letter(0);
                int place = row[0].length() + (row[1].indexOf(c) >= 0 ? 1 : 0);
                d.due("letter " + c, x.school(), -1000 - place);
                d.due("letters are no more", x.count(7), 0);
                d.due("nothing came", x.count(0) + x.count(4), 10);
            }
        }
    }

    private static void ends() {
        String[] lacking = {
            "", "p", "pt", "pt5", "pt55", "h", "h1", "l", "l1", "r", "w", "x", "x0", "x01", "m", "m1", "m12"};
        for (String text : lacking) {
            edge("the end, if something lacks: \"" + text + "\"", "\"" + text + "\"=" + (-1000 - text.length()));
            if (!text.isEmpty()) {
                edge("the end, if something lacks: behind another STATEMENT",
                    "\"m12;" + text + "\"=" + (-1004 - text.length())
                    + " count(4)=10");
            }
        }
    }

    private static void kindsOfFault() {
        edge("-1000 less the place: the first and the last", "\"q\"=-1000 \"" + "r;".repeat(31) + "r?\"=-1063");
        edge("-2000 less the place: the first and the last", "\"h0;\"=-2000 \"" + "r;".repeat(30) + "h4;\"=-2060");
        edge("else kind 2: kind 1 goes first, though it stands behind",
            "\"h0;q\"=-1003 \"h0;r\"=-1004 \"x00;l9;h9;h\"=-1011 count(1)=2");
        edge("the first STATEMENT that is not as it must be", "\"h0;l9;\"=-2000 \"r;l9;h0;\"=-2002 \"r;h0;l9;\"=-2002");
        edge("the first letter of the STATEMENT, not the number's",
            "\"m12;x99;\"=-2004 \"m12;l7;\"=-2004 \"m12;h4;\"=-2004");
        edge("a number out of range: HOURS and LAW on both sides", "\"h0;\"=-2000 \"h1;\"=1 \"h3;\"=1 \"h4;\"=-2000 "
            + "\"l0;\"=1 \"l6;\"=1 \"l7;\"=-2000 count(1)=3 count(3)=6");
        edge("no room: the seventh, wherever it stands",
            "\"ps11;ps11;ps11;ps11;ps11;ps11;r;ps11;\"=-2032 \"ps11;ps11;ps11;ps11;ps11;ps11;\"=6 \"r;ps11;\"=-2002 "
            + "count(0)=6");
        edge("no room is met before what stands behind it", "\"ps11;ps11;ps11;ps11;ps11;ps11;ps11;h0;\"=-2030");
    }

    private static void allOrNothing() {
        String state = "count(0)=2 count(1)=3 count(2)=1 count(3)=4 count(4)=33 count(5)=0 count(6)=1 count(7)=0 "
            + "learns=1,0 seats=1,0 pupil(0,3)=0 pupil(1,3)=1 pupil(0,0)=5 pupil(1,0)=1 ";
        String make = "\"h3;w;l4;m33;po11;pl52;x01;\"=7 learn(0,1) sick(1,1) week()=1 row(5)=1 " + state;
        edge("with one nothing comes: kind 2 in the last STATEMENT",
            make + "\"h2;r;l0;m1;x01;ps99;h0;\"=-2020 " + state);
        edge("with one nothing comes: kind 1 at the end", make + "\"h2;r;l0;m1;x01;ps99;h\"=-1021 " + state);
        edge("with one nothing comes: one STATEMENT after the other",
            make + "\"h1;q\"=-1003 \"h1;h0;\"=-2003 \"r;l7;\"=-2002 \"l1;l8;\"=-2003 \"m1;x00;\"=-2003 "
            + "\"x01;x22;\"=-2004 "
            + "\"ps11;x03;\"=-2005 " + state);
        edge("Without FAULT all of it comes",
            make + "\"h2;r;l0;m1;x01;ps99;h1;\"=7 count(0)=3 count(1)=1 count(2)=1 count(3)=0 "
            + "count(4)=1 count(5)=1 count(6)=1 learns=1,1,1 seats=0,1,2 pupil(1,3)=1 pupil(2,3)=0");
        edge("a FAULT (nothing is counted)",
            "school()=-1000 \"q\"=-1000 \"h0;\"=-2000 \"x00;\"=-2000 count(11)=0 count(12)=0 count(13)=0 "
            + "count(14)=0 count(15)=0 count(16)=0");
        edge("letters are no more: behind a FAULT, too",
            "\"h\"=-1001 count(7)=0 \"3;\"=-1000 count(1)=2 \"h0;\"=-2000 count(7)=0");
    }
}
