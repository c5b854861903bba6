import java.math.BigInteger;
import java.util.ArrayList;
import java.util.Collections;
import java.util.List;

/** "Terms", from KNOWS on: nobody, one alone, both ends of a ROW, what is cut, of several the first, THE IMAGE. */
public final class TermsEdgesTest {
    private static final Due d = new Due();
    private static final String SIX = "ps11;ps11;ps11;ps11;ps11;ps11;";
    private static final String NOTHING = "ps00;ps00;ps00;ps00;ps00;ps00;";

    public static void main(String[] args) {
        knows();
        neighboursLaws();
        sharedLaws();
        plainKinds();
        trust();
        best();
        passedAndAll();
        afterAndAgain();
        seatings();
        rests();
        goodAndHour();
        mends();
        seen();
        judged();
        draws();
        seeds();
        image();
        d.end();
    }

    private static void edge(String sentence, String run) {
        Script.run(d, sentence, run);
    }

    private static void knows() {
        edge("KNOWS: QUICK times LEARN, from none to all HOURS", "\"h3;ps70;\" learn(0,0) knows=0 learn(0,1) knows=7 "
            + "learn(0,2) knows=14 learn(0,3) knows=21");
        edge("KNOWS: of whoever has it to the left TEACHES times TEACH",
            "\"h3;ps07;ps05;\" knows=0,0 learn(0,2) knows=0,7 learn(0,0) knows=0,21 learn(1,0) knows=15,21");
        edge("KNOWS: the greatest and the least", "\"h3;ps99;ps99;ps00;\" learn(0,0) learn(2,0) knows=0,54,0");
        edge("KNOWS: in a ROW nobody has the first to the left",
            "\"w;ps11;ps19;\" learn(1,0) knows=2,0 \"r;\" knows=20,0");
        edge("KNOWS: one alone in a RING has itself to the left",
            "\"h3;ps25;\" learn(0,1) knows=12 learn(0,0) knows=15");
        edge("KNOWS: one alone in a ROW has not", "\"w;h3;ps25;\" learn(0,1) knows=2 learn(0,0) knows=0");
        edge("KNOWS: two in a RING have one another",
            "\"ps12;ps34;\" learn(0,1) learn(1,1) knows=5,5 swap(0,1) knows=5,5 \"w;\" knows=5,3");
        edge("of a SICK one nothing comes", "\"ps11;ps19;\" learn(1,0) knows=20,0 sick(1,1) knows=2,0");
        edge("a SICK one KNOWS 0: what it LEARNT and what it was taught",
            "\"ps11;ps19;\" learn(1,0) sick(0,1) knows=0,0 sick(0,0) knows=20,0");
        edge("a SICK one KNOWS 0: alone", "\"ps55;\" learn(0,1) knows=10 sick(0,1) knows=0 sick(0,0) knows=10");
        edge("a SICK one KNOWS 0: all six",
            "\"" + SIX + "\" sick(0,1) sick(1,1) sick(2,1) sick(3,1) sick(4,1) sick(5,1) "
            + "knows=0,0,0,0,0,0 marks=0,0,0,0,0,0");
    }

    private static void neighboursLaws() {
        String four = "h1;ps91;ps61;ps81;ps31;";
        edge("0 OWN: alone, in a RING and a ROW", "\"l0;ps50;\" marks=10 \"w;\" marks=10");
        edge("0 OWN: nobody beside one comes into it", "\"l0;" + four + "\" marks=9,6,8,3 \"w;\" marks=9,6,8,3");
        edge("1 LEFT: the last in a RING has the first's", "\"l1;" + four + "\" marks=6,8,3,9");
        edge("1 LEFT (nobody: 0): the last in a ROW", "\"w;l1;" + four + "\" marks=6,8,3,0 swap(0,3) marks=0,8,9,6");
        edge("1 LEFT (nobody: 0): one alone", "\"l1;ps50;\" marks=10 \"w;\" marks=0");
        edge("1 LEFT: a SICK one's is 0, a SICK one has the left one's",
            "\"l1;ps50;ps30;\" marks=6,10 sick(0,1) marks=6,0");
        edge("2 RIGHT: the first in a RING has the last's", "\"l2;" + four + "\" marks=3,9,6,8");
        edge("2 RIGHT (nobody: 0): the first in a ROW", "\"w;l2;" + four + "\" marks=0,9,6,8 swap(0,3) marks=8,3,6,0");
        edge("2 RIGHT (nobody: 0): one alone", "\"l2;ps50;\" marks=10 \"w;\" marks=0");
        edge("2 RIGHT: a SICK one's is 0", "\"l2;ps50;ps30;ps10;\" marks=2,10,6 sick(0,1) marks=2,0,6");
        edge("3 BOTH: half of it, cut", "\"l3;" + four + "\" marks=4,8,4,8");
        edge("3 BOTH: together ahead of half", "\"h1;l3;ps00;ps30;ps00;ps30;\" marks=3,0,3,0 sick(1,1) marks=1,0,1,0");
        edge("3 BOTH: nobody on one side, at either end of a ROW", "\"w;l3;" + four + "\" marks=3,8,4,4");
        edge("3 BOTH: one alone", "\"l3;h1;ps50;\" marks=5 \"w;\" marks=0");
        edge("3 BOTH: two in a RING have the other on both sides", "\"l3;h1;ps50;ps30;\" marks=3,5 \"w;\" marks=1,2");
        edge("4 HALVES: half of it, cut", "\"l4;" + four + "\" marks=7,7,5,6");
        edge("4 HALVES: together ahead of half", "\"h1;l4;ps50;ps30;\" marks=4,4");
        edge("4 HALVES: nobody to the left of the last in a ROW", "\"w;l4;" + four + "\" marks=7,7,5,1");
        edge("4 HALVES: one alone", "\"l4;h1;ps50;\" marks=5 \"w;\" marks=2");
    }

    private static void sharedLaws() {
        edge("5 MEAN: by PUPILS, cut", "\"l5;h1;ps50;ps50;ps10;\" marks=3,3,3 \"ps00;\" marks=2,2,2,2");
        edge("5 MEAN: six, just ahead of a whole one and at it",
            "\"l5;h1;ps10;ps10;ps10;ps10;ps10;ps00;\" marks=0,0,0,0,0,0 all()=0 sick(0,1) all()=0");
        edge("5 MEAN: six, at a whole one", "\"l5;h1;ps10;ps10;ps10;ps10;ps10;ps10;\" marks=1,1,1,1,1,1 all()=6");
        edge("5 MEAN: one alone", "\"l5;h1;ps50;\" marks=5 \"w;\" marks=5");
        edge("5 MEAN: a SICK one is one of PUPILS", "\"l5;h1;ps50;ps50;ps90;\" marks=6,6,6 sick(2,1) marks=3,3,3");
        edge("5 MEAN: nobody", "\"l5;\" all()=0 passed()=0");
        edge("6 LEAST: the least that any KNOWS, first or last", "\"l6;h1;ps50;ps30;ps90;\" marks=3,3,3");
        edge("6 LEAST: PUPIL 0's and PUPIL 5's",
            "\"l6;h1;ps30;ps50;ps90;ps90;ps90;ps40;\" marks=3,3,3,3,3,3 \"w;\" all()=18");
        edge("6 LEAST: the last PUPIL's", "\"l6;h1;ps90;ps50;ps90;ps90;ps90;ps40;\" marks=4,4,4,4,4,4");
        edge("6 LEAST: one alone", "\"l6;h1;ps50;\" marks=5 sick(0,1) marks=0");
        edge("6 LEAST: a SICK one KNOWS 0", "\"l6;h1;ps50;ps30;\" marks=3,3 sick(0,1) marks=0,0");
        edge("6 LEAST: nobody", "\"l6;\" all()=0 passed()=0");
    }

    private static void plainKinds() {
        for (int h = 1; h <= 3; h++) {
            for (int from = 0; from <= h; from++) {
                String start = "\"h" + h + ";";
                String then = " learn(0," + from + ") week()=1 learns=";
                edge("s SELF: LEARNS all HOURS", start + "ps19;\"" + then + h);
                edge("l LEFT: TEACHES all", start + "pl91;\"" + then + 0);
                edge("h HALF: TEACHES half of HOURS, cut, LEARNS the rest", start + "ph55;\"" + then + (h - h / 2));
                edge("o STAYS: as in the WEEK ahead", start + "po55;\"" + then + from);
            }
        }
        edge("h HALF: of 1, 2 and 3 HOURS",
            "\"ph11;\" \"h1;\" week() learns=1 \"h2;\" week() learns=1 \"h3;\" week() learns=2");
        edge("a SICK one does as its KIND does",
            "\"ps11;pl11;ph11;\" learn(0,0) sick(0,1) sick(1,1) sick(2,1) week() learns=2,0,1");
        edge("a WEEK of nobody", "week()=1 week()=2 count(2)=2 count(0)=0");
        edge("STAYS sees new HOURS", "\"po11;\" learn(0,0) week() learns=0 \"h3;\" learns=3 week() learns=3");
    }

    private static void trust() {
        for (int h = 1; h <= 3; h++) {
            for (int taught = 0; taught <= h; taught++) {
                edge("t TRUST: as a LEFT, if it was taught at least 1 hour; else as a SELF: " + taught + " of " + h,
                    "\"h" + h + ";po11;pt11;po11;\" learn(0," + (h - taught) + ") learn(1,0) week() learns="
                    + (h - taught) + "," + (taught >= 1 ? 0 : h) + "," + h);
            }
        }
        edge("t TRUST: whoever has it to the left, not who sits to its left",
            "\"pt11;po11;po11;\" learn(1,0) week() learns=2,0,2 learn(2,0) learn(1,2) week() learns=0,2,0");
        edge("t TRUST (nobody: not): the first in a ROW",
            "\"w;pt11;po11;\" learn(0,0) learn(1,0) week() learns=2,0 \"r;\" learns=2,0 week() learns=0,0");
        edge("t TRUST (nobody: not): one alone in a ROW", "\"w;pt11;\" learn(0,0) week() learns=2");
        edge("t TRUST: one alone in a RING has itself to the left",
            "\"pt11;\" week() learns=2 learn(0,1) week() learns=0 week() learns=0");
        edge("t TRUST: hours that a SICK one taught are hours",
            "\"po11;pt11;\" learn(0,1) sick(0,1) week() learns=1,0");
        edge("t TRUST: hours of one who TEACHES 0 are hours", "\"po10;pt11;\" learn(0,1) week() learns=1,0");
        edge("all at once: two who trust change places",
            "\"pt11;pt11;\" learn(0,0) week() learns=2,0 week() learns=0,2");
        edge("all at once: six in a RING, one further each WEEK",
            "\"pt11;pt11;pt11;pt11;pt11;pt11;\" learn(5,1) week() "
            + "learns=0,2,2,2,2,2 week() learns=2,0,2,2,2,2 week() learns=2,2,0,2,2,2");
    }

    private static void best() {
        edge("b BEST: its own MARK, by OWN it LEARNS", "\"l0;h3;pb19;po11;\" learn(0,0) week() learns=3,3");
        edge("b BEST: its own MARK, by LEFT it TEACHES", "\"l1;h3;pb91;po11;\" week() learns=0,3");
        edge("b BEST: of several the fewest: TEACHES 0", "\"l1;h3;pb00;po11;\" learn(0,0) week() learns=3,3");
        edge("b BEST: of several the fewest: the last in a ROW has nobody to TEACH",
            "\"w;l1;h3;po11;pb19;\" learn(1,0) week() learns=3,3");
        // MEAN of 3: LEARN and 2 * TEACH of 2 HOURS are 2, 3, 4 by TEACH 0, 1, 2; by 3, cut: 0, 1, 1.
        edge("b BEST: of several the fewest, which is not none", "\"l5;h2;pb12;po00;po00;\" week() learns=1,2,2");
        // HALVES: (9 + LEARN + 2 * TEACH) / 2 by 1 HOUR: (9 + 1) / 2 = 5, (9 + 2) / 2 = 5.
        edge("b BEST: of several the fewest, where the cut makes two alike",
            "\"l4;h1;pb12;po90;\" learn(0,0) week() learns=1,1");
        // 0 KNOWS 5, 10, 15 by LEARN 1, 2, 3; 1 KNOWS 3 + 5 * TEACH: the least is 5, 8, 3.
        edge("b BEST: neither none nor all", "\"l6;h3;pb55;po15;\" week() learns=2,3");
        edge("b BEST: a SICK one's own MARK by OWN is 0 whatever it does",
            "\"l0;pb11;po11;\" sick(0,1) learn(0,0) week() learns=2,2");
        edge("b BEST: of a SICK one nothing comes, so it TEACHES 0",
            "\"l1;pb19;po11;\" sick(0,1) learn(0,0) week() learns=2,2");
        edge("b BEST: one alone in a RING by LEFT: the greater of both", "\"pb35;\" week() learns=0");
        edge("b BEST: one alone in a RING who is QUICK", "\"pb53;\" learn(0,0) week() learns=2");
        edge("b BEST: one alone in a ROW", "\"w;pb35;\" learn(0,0) week() learns=2 \"l0;\" learn(0,0) week() learns=2");
        // LEAST, 1 HOUR: 0 LEARNS, 1 TEACHES: 0 would TEACH (9, 9 not 10, 0), 1 would LEARN (1, 1 not 10, 0).
        edge("if all others did as in the WEEK ahead, all at once",
            "\"l6;h1;pb19;pb19;\" learn(1,0) week() learns=0,1");
    }

    private static void passedAndAll() {
        edge("PASSED: whose MARK is PASS at least: one less, the same, one more",
            "\"l0;h1;ps90;ps80;ps70;m8;\" passed()=3 pass(9)=8 passed()=1 pass(10)=9 passed()=0 pass(7)=10 passed()=7");
        edge("PASSED: PASS 0, a SICK one, too", "\"l0;ps00;ps50;\" sick(1,1) pass(0) passed()=3 pass(1) passed()=0");
        edge("PASSED: PASS 99", "\"h3;l0;ps99;m99;\" passed()=0");
        edge("PASSED (bits): six", "\"m0;" + SIX + "\" passed()=63 pass(3) passed()=0");
        edge("PASSED (bits): PUPIL 5 alone", "\"l0;h1;m9;ps10;ps10;ps10;ps10;ps10;ps90;\" passed()=32");
        edge("PASSED (bits): by number, not by SEAT", "\"l0;h1;m9;ps90;ps10;ps10;x02;\" passed()=1");
        edge("PASSED, ALL: nobody", "passed()=0 all()=0 pass(0) passed()=0");
        edge("ALL: MARKS of all together, each cut by itself",
            "\"h1;l4;ps10;ps00;\" marks=0,0 all()=0 \"l0;\" all()=1");
        edge("ALL: the greatest", "\"h3;l0;ps99;ps99;\" learn(1,0) all()=54");
        edge("ALL: six", "\"h3;l1;ps90;ps90;ps90;ps90;ps90;ps90;\" all()=162 \"w;\" all()=135");
    }

    private static void afterAndAgain() {
        String three = "\"pt11;pt11;pt11;l0;\" learn(0,0) ";
        // TEACHING goes on to the next each WEEK; whoever sits to the left of who TEACHES KNOWS 4, who TEACHES 0.
        edge("AFTER n WEEKS (0 .. 40): 0 is now",
            three + "marks=0,4,2 after(0,0)=0 after(1,0)=4 after(2,0)=2 after(-1,0)=6");
        edge("AFTER n WEEKS (0 .. 40): 1, and 39 and 40",
            three + "after(0,1)=2 after(1,1)=0 after(2,1)=4 after(0,39)=0 after(1,39)=4 "
            + "after(2,39)=2 after(0,40)=2 after(1,40)=0 after(2,40)=4");
        edge("AFTER n WEEKS (0 .. 40): both sides",
            three + "after(0,-1)=-4 after(0,41)=-6 after(0,min)=-4 after(0,max)=-6");
        edge("AFTER: the MARK as in so many weeks, in mind",
            three + "after(1,2)=2 learns=0,2,2 count(2)=0 week() week() mark(1)=2");
        edge("AFTER: ALL then", "\"l0;h3;po00;pl91;\" after(-1,0)=27 after(-1,1)=3 after(-1,40)=3 all()=27");
        edge("AFTER: of nobody", "after(-1,0)=0 after(-1,40)=0 after(0,0)=-1");
        edge("AGAIN: the least n, 1", "\"ps11;pt11;\" again()=1 learn(0,1) again()=-9");
        edge("AGAIN: 2", "\"pt11;pt11;\" learn(0,0) again()=2 week() again()=2");
        edge("AGAIN: six in a RING",
            "\"pt11;pt11;pt11;pt11;pt11;pt11;\" learn(0,0) again()=6 learn(3,0) again()=3 learn(1,0) learn(4,0) "
            + "again()=3 learn(2,0) learn(5,0) again()=1");
        edge("AGAIN: least of those: 2 of six",
            "\"pt11;pt11;pt11;pt11;pt11;pt11;\" learn(0,0) learn(2,0) learn(4,0) again()=2");
        edge("AGAIN (1 .. 30): 30 is taken",
            "\"h3;l5;pt54;pb31;pb34;pt98;pt79;pt49;\" learn(0,0) learn(3,0) learn(4,0) "
            + "learns=0,3,3,0,0,3 again()=30 " + "week() ".repeat(29) + "again()=30 week()=30 learns=0,3,3,0,0,3");
        edge("AGAIN (1 .. 30): 31 is not",
            "\"h1;l4;pt00;pt41;pb45;pt51;pt88;\" learn(1,0) learn(2,0) learns=1,0,0,1,1 again()=-9 "
            + "week() ".repeat(31) + "learns=1,0,0,1,1");
        edge("AGAIN: nobody, one alone", "again()=1 \"pt11;\" again()=1 learn(0,1) again()=-9 week() again()=1");
        edge("AGAIN: all LEARN as now: what one has LEARNT never again",
            "\"po11;ps11;\" learn(0,1) again()=1 learn(1,1) again()=-9");
    }

    private static void seatings() {
        int factorial = 1;
        for (int n = 0; n <= 6; n++) {
            StringBuilder zeros = new StringBuilder();
            StringBuilder first = new StringBuilder();
            for (int p = 0; p < n; p++) {
                zeros.append("row(0)=" + (p + 1) + " ");
                first.append(" fitting(" + p + ")=" + p);
            }
            int inRing = n == 0 ? 1 : factorial;
            factorial *= Math.max(1, n);
            String text = NOTHING.substring(0, 5 * n);
            edge("SEATINGS: all orders of " + n + " in a ROW, the first by numbers",
                "\"w;" + text + "\" " + zeros + "fitting(-1)=" + factorial + first + " fitting(" + n + ")=-9");
            edge("PUPIL 0 on the first SEAT in a RING: orders of " + n,
                "\"r;" + text + "\" " + zeros + "fitting(-1)=" + inRing + first + " fitting(" + n + ")=-9");
        }
        edge("PUPIL 0 on the first SEAT in a RING: wherever it sits now",
            "\"ps11;ps11;ps11;x02;\" bestSeat(0)=0 bestSeat(1)=1 bestSeat(2)=2 seats=2,1,0");
        // Who comes next behind 2 KNOWS 3 more; 0 alone PASSES by it: 1 2 0 and 2 0 1.
        edge("gone through by numbers, the first SEAT's first",
            "\"h1;l0;w;m4;ps33;ps30;ps03;\" learn(1,0) learn(2,0) best(0)=1 best(1)=6 "
            + "bestSeat(0)=1 bestSeat(1)=2 bestSeat(2)=0");
        // BOTH in a ROW, KNOWS 1, 0, 5. 1 in the midst: 0, 3, 0. 2: 2, 0, 2. 0: 0, 2, 0.
        edge("by which most PASS: ahead of a greater ALL",
            "\"h1;l3;w;m3;ps14;ps01;ps50;\" best(0)=1 best(1)=3 bestSeat(0)=0 bestSeat(1)=1 "
            + "bestSeat(2)=2 pass(0) best(0)=3 best(1)=4 bestSeat(0)=0 bestSeat(1)=2 bestSeat(2)=1");
        edge("of these with the greatest ALL",
            "\"h1;w;m0;ps90;ps50;ps20;\" best(0)=3 best(1)=14 bestSeat(0)=2 bestSeat(1)=0 bestSeat(2)=1");
        edge("BEST one: none PASSES", "\"h1;w;m99;ps90;ps50;ps20;\" best(0)=0 best(1)=14 bestSeat(0)=2");
        edge("with hours as they are",
            "\"w;h1;l0;ps10;ps09;\" learn(1,0) best(1)=10 bestSeat(0)=1 learn(1,1) best(1)=1 bestSeat(0)=0");
        edge("BEST one: one alone, nobody",
            "best(0)=-3 bestSeat(0)=-9 \"ps50;\" best(0)=1 best(1)=10 bestSeat(0)=0 bestSeat(1)=-9");
        edge("SUM LEAST: the least ALL",
            "\"h1;w;ps90;ps50;ps20;\" sumLeast()=7 all()=7 \"r;\" sumLeast()=16 swap(0,2) sumLeast()=16");
        // PUPIL p KNOWS 10 at least if one with a greater number TEACHES it: from 5 down to 0, and no other order.
        String down = "h3;l0;m10;ps80;ps61;ps42;ps23;ps04;ps05;\" learn(0,1) learn(1,1) learn(2,1) learn(3,1) "
        + "learn(4,1) "
            + "learn(5,1) best(0)=5 ";
        edge("all orders of PUPILS: the last in a ROW, too", "\"w;" + down + "best(1)=50 bestSeat(0)=5 bestSeat(1)=4 "
            + "bestSeat(2)=3 bestSeat(3)=2 bestSeat(4)=1 bestSeat(5)=0");
        edge("all orders of PUPILS: the last in a RING, too", "\"r;" + down + "best(1)=50 bestSeat(0)=0 bestSeat(1)=5 "
            + "bestSeat(2)=4 bestSeat(3)=3 bestSeat(4)=2 bestSeat(5)=1");
        // BOTH from 5 down to 0: they KNOW 5, 1, 4, 0, 3, 4.
        edge("SUM LEAST: the last order alone",
            "\"w;h1;l3;ps87;ps54;ps13;ps49;ps19;ps50;\" learn(0,0) learn(1,0) learn(2,0) "
            + "sumLeast()=10 swap(0,5) swap(1,4) swap(2,3) seats=5,4,3,2,1,0 knows=4,3,0,4,1,5 all()=10 sumLeast()=10");
        edge("SUM LEAST: six, one alone, nobody",
            "sumLeast()=-3 \"ps50;\" sumLeast()=10 \"w;\" sumLeast()=0 \"ps10;ps10;ps10;ps10;ps90;\" "
            + "sumLeast()=18 all()=26");
    }

    private static void rests() {
        for (int h = 1; h <= 3; h++) {
            int ways = 1;
            for (int n = 0; n <= 6; n++) {
                StringBuilder none = new StringBuilder();
                for (int p = 0; p < n; p++) {
                    none.append(" rest(" + p + ")=0");
                }
                edge("RESTS: all ways in which each LEARNS 0 .. HOURS: " + n + " with " + h,
                    "\"h" + h + ";" + NOTHING.substring(0, 5 * n) + "\" rests(0)=" + ways + " rests(1)=0" + none
                    + " rest(" + n + ")=-1 far()=0 good()=0");
                ways *= h + 1;
            }
        }
        edge("each LEARNS 0 .. HOURS: none and all",
            "\"l0;h3;ps10;ps01;\" rests(0)=4 rest(0)=3 rest(1)=0 \"l1;\" rests(0)=4 rest(0)=0 rest(1)=0");
        // MEAN in a ROW: 2 L0 and L1 + 3 T0, together by 2: 0 0: 1. 0 1: 2. 1 0: 1. 1 1: 1.
        // From 0 1 and from 1 0 one alone can make nothing more.
        edge("gone through by PUPIL 0's LEARN, then 1's",
            "\"h1;l5;w;ps23;ps13;\" rests(0)=2 rests(1)=4 rest(0)=0 rest(1)=1 far()=0");
        edge("nobody's own MARK would be greater: the same is no more", "\"l1;h1;ps00;ps00;\" rests(0)=4");
        edge("RESTS: nobody, one alone",
            "rests(0)=1 rests(1)=0 rest(0)=-1 far()=0 \"ps35;\" rests(0)=1 rests(1)=10 rest(0)=0 "
            + "\"w;\" rests(0)=3 rests(1)=0 \"l0;\" rests(0)=1 rests(1)=6 rest(0)=2");
        edge("RESTS: what a SICK one does is all the same to it",
            "\"l0;ps35;ps35;\" rests(0)=1 sick(0,1) rests(0)=3 rest(0)=0 rest(1)=2");
        edge("RESTS: whatever they LEARN now",
            "\"l0;ps35;ps35;\" rests(0)=1 learn(0,0) learn(1,1) rests(0)=1 rests(1)=12 rest(0)=2 learns=0,1");
    }

    private static void goodAndHour() {
        // BOTH of two in a RING: 0 has 3 L1 + T0, 1 has 4 L0: 0 LEARNS none, 1 as it likes.
        edge("FAR: GOOD less the greatest ALL of ways that REST, not the first's",
            "\"h2;l3;ps41;ps30;\" rests(0)=3 rests(1)=2 good()=14 far()=6");
        edge("FAR: nothing, where the best RESTS", "\"h2;l5;ps41;ps30;\" far()=0");
        edge("FAR, GOOD: nobody, one alone",
            "good()=0 far()=0 \"ps35;\" good()=10 far()=0 \"w;\" good()=0 far()=0 \"l0;\" good()=6");
        edge("GOOD: the greatest ALL of all ways, six with 3 HOURS",
            "\"h3;ps90;ps90;ps90;ps90;ps90;ps90;\" good()=162 \"w;\" good()=135");
        edge("GOOD: six who TEACH", "\"h3;ps09;ps09;ps09;ps09;ps09;ps09;\" all()=0 good()=162 \"w;l0;\" good()=135");
        edge("GOOD: with a SICK one", "\"ps52;ps37;\" good()=24 sick(0,1) good()=6 sick(1,1) good()=0");
        edge("BY LAW: another LAW, the one that holds, too; LAW stays",
            "\"w;ps52;ps37;\" byLaw(0)=16 byLaw(1)=10 byLaw(6)=12 good()=10 count(3)=1 byLaw(-1)=-2 byLaw(7)=-2");
        edge("BY LAW: nobody", "byLaw(0)=0 byLaw(1)=0 byLaw(2)=0 byLaw(3)=0 byLaw(4)=0 byLaw(5)=0 byLaw(6)=0");
        edge("HOUR: one hour more, though it LEARNS all HOURS",
            "\"h3;l0;ps90;\" hour(0,0)=9 hour(0,1)=1 learns=3 \"w;\" hour(0,0)=9");
        edge("HOUR: one hour more LEARNT, TEACH stays", "\"l0;ps95;ps11;\" learn(0,0) hour(0,0)=9 hour(0,1)=1");
        edge("HOUR: what is cut is no more",
            "\"h1;l4;ps10;ps00;\" hour(0,0)=2 hour(0,1)=3 \"l5;\" learn(0,0) hour(0,0)=0 hour(0,1)=0");
        edge("HOUR: to nobody", "\"w;l1;ps90;ps10;\" hour(0,0)=0 hour(0,1)=0 hour(1,0)=1 hour(1,1)=1");
        edge("HOUR: MARKS (bits), six",
            "\"l5;" + NOTHING.substring(5) + "ps90;\" hour(5,0)=6 hour(5,1)=63 hour(0,0)=0 hour(0,1)=0");
        edge("HOUR: a SICK one's", "\"l0;ps90;\" sick(0,1) hour(0,0)=0 hour(0,1)=0");
    }

    private static void mends() {
        String row = "\"w;h1;m9;ps90;ps10;ps90;ps10;\" ";
        edge("MENDS: told PUPILS none", "mends(0)=0 \"ps00;\" mends(0)=0");
        // By LEFT 1 PASSES, for 2 sits to its left; 3 has nobody; 0 2 .. and 1 3 need a change each.
        edge("MENDS (0, 1, 2): 0 changes", row + "passed()=2 mends(2)=0");
        edge("MENDS (0, 1, 2): 1 change", row + "mends(8)=1 mends(1)=1 seats=0,1,2,3");
        edge("MENDS (0, 1, 2): 2 changes", row + "mends(10)=2 seats=0,1,2,3");
        edge("MENDS: -9 where three would do",
            "\"w;h1;ps91;ps11;ps91;ps11;ps91;ps11;m9;\" mends(42)=-9 swap(0,1) mends(42)=2 swap(2,3) mends(42)=1 "
            + "swap(4,5) mends(42)=0");
        edge("MENDS: -9 where none would", row + "mends(15)=-9 pass(10) mends(1)=-9");
        edge("MENDS: one alone, two in a RING",
            "\"ps10;\" mends(1)=-9 pass(2) mends(1)=0 \"ps90;\" mends(1)=0 mends(2)=0 pass(3) mends(2)=-9");
        edge("MENDS: told PUPILS all PASS, others may or not",
            "\"h1;w;m9;ps90;ps10;ps10;\" mends(2)=1 mends(4)=2 mends(6)=-9");
        edge("MENDS: a SICK one", "\"l0;h1;m1;ps90;ps90;\" sick(0,1) mends(1)=-9 mends(2)=0");
    }

    private static void seen() {
        edge("a ROW of numbers (0 .. 99; 6 at most)",
            "row(-1)=-4 row(100)=-6 row(0)=1 row(99)=2 row(0)=3 row(0)=4 row(0)=5 row(0)=6 row(0)=-6 count(6)=6");
        String three = "\"w;h1;ps90;ps50;ps20;\" ";
        edge("FITTING: just these",
            three + "tells=5,0,9 fitting(-1)=1 fitting(0)=2 fitting(1)=0 fitting(2)=1 fitting(3)=-9");
        edge("FITTING: none", three + "tells=5,1,9 fitting(-1)=0 fitting(0)=-9 fitting(2)=-9");
        // 3 to the left of 1, 2 last, 0 ahead of 1 or behind 3.
        edge("FITTING: the first of two",
            "\"w;h1;ps10;ps10;ps10;ps20;\" tells=1,2,0,1 fitting(-1)=2 fitting(0)=0 fitting(1)=1 fitting(2)=3 "
            + "fitting(3)=2");
        edge("FITTING: MARKS of PUPILS by numbers, not by SEATS",
            three + "swap(0,2) tells=5,2,0 fitting(-1)=1 fitting(0)=0 fitting(1)=1 fitting(2)=2");
        edge("FITTING: six", "\"w;h1;ps10;ps20;ps30;ps40;ps50;ps60;\" tells=0,1,2,3,4,5 fitting(-1)=1 fitting(0)=5 "
            + "fitting(1)=4 fitting(2)=3 fitting(3)=2 fitting(4)=1 fitting(5)=0 fitting(6)=-9 forged()=63");
        edge("FORGED: all others' MARKS just so: one is wrong", three + "tells=5,1,9 forged()=2");
        edge("FORGED: all are just so, each may be wrong", three + "tells=5,0,9 forged()=7");
        // But for 0's 1 2 0, but for 1's 2 0 1, but for 2's 0 1 2.
        edge("FORGED: each by another SEATING, none has all", three + "tells=5,2,9 fitting(-1)=0 forged()=7");
        edge("FORGED: two are wrong", three + "tells=5,1,8 forged()=0");
        edge("FORGED: one alone has no others", "\"ps10;\" tells=99 forged()=1");
        edge("FORGED: nobody", "forged()=0 fitting(-1)=1 fitting(0)=-9");
        edge("FORGED: PUPIL 5 of six", "\"h1;l0;" + SIX + "\" tells=1,1,1,1,1,99 forged()=32 fitting(-1)=0");
        edge("FORGED: PUPIL 0 of six", "\"h1;l0;" + SIX + "\" tells=0,1,1,1,1,1 forged()=1");
    }

    private static void judged() {
        String three = "\"h1;ps90;ps50;ps20;\" marks=5,2,9 ";
        edge("JUDGED: the first MARK that is not as told",
            three + "tells=6,2,9 judge()=0 tells=5,3,9 judge()=1 tells=5,2,8 judge()=2");
        edge("JUDGED: the first of several", three + "tells=5,1,1 judge()=1 tells=1,1,1 judge()=0");
        edge("JUDGED: where it ends, if too short", three + "judge()=0 tells=5 judge()=1 tells=5,2 judge()=2");
        edge("JUDGED: a wrong one ahead of where it ends", three + "tells=4 judge()=0 tells=5,1 judge()=1");
        edge("JUDGED: how many PUPILS, if too long", three + "tells=5,2,9,0 judge()=3 tells=5,2,9,5,2,9 judge()=3");
        edge("JUDGED: a wrong one ahead of too long", three + "tells=5,2,8,0 judge()=2");
        edge("JUDGED: else -9", three + "tells=5,2,9 judge()=-9");
        edge("JUDGED: now, not when they were told",
            three + "tells=5,2,9 law(0) judge()=0 law(1) tells=9,5,2 law(0) judge()=-9");
        edge("JUDGED: six", "\"l0;h1;" + SIX + "\" tells=1,1,1,1,1,1 judge()=-9 tells=1,1,1,1,1,0 judge()=5 "
            + "tells=1,1,1,1,1 judge()=5");
        edge("JUDGED: nobody", "judge()=-9 row(0)=1 judge()=0 judge()=-9");
        edge("JUDGED: the ROW has none then, whatever came of it",
            three + "tells=5,2,9 judge()=-9 count(6)=0 row(0)=1 judge()=0 count(6)=0 "
            + "tells=5,2,9,5,2,9 judge()=3 count(6)=0 row(5)=1");
    }

    /** Told once more in numbers that don't wrap around. */
    private static int drawn(BigInteger[] z, int below) {
        BigInteger all = BigInteger.ONE.shiftLeft(32);
        z[0] = z[0].multiply(BigInteger.valueOf(1664525)).add(BigInteger.valueOf(1013904223)).mod(all);
        BigInteger unsigned = z[0].mod(BigInteger.ONE.shiftLeft(31));
        return unsigned.divide(BigInteger.valueOf(256)).mod(BigInteger.valueOf(below)).intValue();
    }

    private static void draws() {
        int[] seeds = {0, 1, -1, 5, 7, Integer.MAX_VALUE, Integer.MIN_VALUE, Integer.MIN_VALUE
        + 1, 1 << 30, 12345, -98765};
        for (int below = 1; below <= 6; below++) {
            for (int seed : seeds) {
                d.part("z (an int) without its sign's bit by 256, cut, modulo m: " + below + " with " + seed);
                drawsWith(seed, below);
            }
        }
    }

    /** By LEFT in a ROW where 0 alone KNOWS enough: one PASSES in each WEEK in which 0 does not sit first. */
    private static void drawsWith(int seed, int below) {
        NeighboursMark x = Due.of("w;h1;m9;po90;" + "po10;".repeat(below - 1));
        List<Integer> seats = new ArrayList<>();
        for (int p = 0; p < below; p++) {
            seats.add(p);
        }
        BigInteger[] z = {BigInteger.valueOf(seed)};
        int want = 0;
        for (int n = 1; n <= 20; n++) {
            int one = drawn(z, below);
            int other = drawn(z, below);
            Collections.swap(seats, seats.indexOf(one), seats.indexOf(other));
            want += seats.get(0) == 0 ? 0 : 1;
            d.due("seeds(" + n + ", " + seed + ")", x.seeds(n, seed), want);
        }
        d.due("in mind", x.pupil(0, 6), 0);
    }

    private static void seeds() {
        edge("SEEDS: n times (1 .. 20)",
            "\"m0;ps11;ps11;\" seeds(0,5)=-4 seeds(1,5)=2 seeds(20,5)=40 seeds(21,5)=-6 seeds(min,5)=-4 "
            + "seeds(max,5)=-6");
        edge("SEEDS: one alone changes SEATS with itself",
            "\"l0;m5;po50;\" seeds(1,0)=1 seeds(20,0)=20 pass(99) seeds(20,0)=0");
        edge("SEEDS: six", "\"m0;" + SIX + "\" seeds(20,-1)=120");
        edge("SEEDS: then a WEEK goes by, in each",
            "\"l0;h1;m1;pl10;po00;\" passed()=1 seeds(1,9)=0 seeds(20,9)=0 learns=1,1 count(2)=0");
        edge("SEEDS: any int is a seed", "\"m0;ps11;\" seeds(1,min)=1 seeds(1,max)=1 seeds(1,0)=1 seeds(1,-1)=1");
    }

    private static void image() {
        String make = "\"h3;w;l4;m33;po11;pl52;x01;\" learn(0,1) sick(1,1) week() row(5) letter(104) ";
        String state = "count(0)=2 count(1)=3 count(2)=1 count(3)=4 count(4)=33 count(5)=0 count(6)=1 count(7)=1 "
        + "learns=1,0 seats=1,0 pupil(0,3)=0 pupil(1,3)=1 ";
        edge("THE IMAGE: PUPILS", make + "image()=1 \"1;\" \"ph99;\" count(0)=3 on()=1 " + state + "pupil(2,0)=-1");
        edge("THE IMAGE: SICK", make + "image() sick(0,1) sick(1,0) on() " + state);
        edge("THE IMAGE: hours", make + "image() learn(0,3) learn(1,3) on() " + state);
        edge("THE IMAGE: HOURS", make + "image() \"2;\"=1 count(1)=2 on() " + state);
        edge("THE IMAGE: SEATS", make + "image() swap(0,1) on() " + state + "pupil(1,7)=0 pupil(0,7)=-9");
        edge("THE IMAGE: a RING or a ROW",
            make + "image() \"1;r;\"=2 count(5)=1 on() " + state + "pupil(1,7)=0 pupil(0,7)=-9");
        edge("THE IMAGE: LAW", make + "image() law(0) on() " + state);
        edge("THE IMAGE: PASS", make + "image() pass(0) on() " + state);
        edge("THE IMAGE: WEEK", make + "image()=1 week()=2 week()=3 on()=1 " + state + "week()=2");
        edge("THE IMAGE: the ROW", make + "image() judge() row(7) row(8) on() " + state);
        edge("THE IMAGE: letters",
            make + "image() letter(59) school()=-1001 on() " + state + "letter(50)=2 letter(59)=3 school()=1 "
            + "count(1)=2");
        edge("THE IMAGE: the ROW's numbers",
            "\"l0;h1;ps10;ps20;\" tells=1,2 image() tells=7,8 on() count(6)=2 judge()=-9 "
            + "tells=9,9 on() fitting(-1)=1");
        edge("THE IMAGE: which letters",
            "letter(104) letter(51) image() \"\"=-1002 letter(108) letter(54) on() letter(59)=3 "
            + "school()=1 count(1)=3 count(3)=1");
        edge("THE IMAGE: of nobody",
            "image()=0 \"h3;w;l4;m33;po11;pl52;x01;\" week() row(5) on()=0 count(0)=0 count(1)=2 count(2)=0 count(3)=1 "
            + "count(4)=10 count(5)=1 count(6)=0 pupil(0,0)=-1 all()=0 \"ps11;\"=1 learns=2 pupil(0,7)=0");
        edge("THE IMAGE: of six", "\"" + SIX + "\" swap(0,5) image() swap(1,4) swap(2,3) on() seats=5,1,2,3,4,0");
        edge("THE IMAGE: what happens behind it is not in it",
            make + "image() week() learn(0,0) swap(0,1) on() " + state + "learn(0,2) on() " + state);
        edge("THE IMAGE: a newer one is the one", "image()=0 week() image()=1 week() on()=1 on()=1 count(2)=1");
        edge("THE IMAGE: how many refusals there were is not told, so not in it",
            "law(9)=-2 image() law(9)=-2 pass(-1)=-4 on() count(12)=2 count(14)=1");
    }
}
