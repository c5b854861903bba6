/** Promises 1 to 34: each refusal and each edge that the promise's own section tells, in its order. */
public final class PromiseEdgesTest {
    private static final Due d = new Due();
    private static final String SIX = "ps11;ps11;ps11;ps11;ps11;ps11;";

    public static void main(String[] args) {
        promises1To5();
        promises6To10();
        promises11To16();
        promises17To21();
        promises22To26();
        promises27To30();
        promises31To33();
        promise34();
        d.end();
    }

    private static void edge(String sentence, String run) {
        Script.run(d, sentence, run);
    }

    private static void promises1To5() {
        edge("1: A RING of nobody",
            "count(0)=0 count(5)=1 count(1)=2 count(2)=0 count(3)=1 count(4)=10 count(6)=0 count(7)=0 all()=0 "
            + "passed()=0 count(11)=0 count(12)=0 count(13)=0 count(14)=0 count(15)=0 count(16)=0 on()=-3");
        edge("2: a letter (0 .. 255)",
            "letter(0)=1 letter(255)=2 letter(-1)=-4 letter(256)=-6 letter(min)=-4 letter(max)=-6 count(7)=2");
        edge("2: a letter (0 .. 255): a number that is a letter but for what lies above 255",
            "letter(370)=-6 letter(65650)=-6 letter(-142)=-4 count(7)=0");
        edge("2: how many there are",
            "letter(112)=1 letter(112)=2 letter(-1)=-4 letter(112)=3 school()=-1001 letter(112)=1");
        edge("2: -6 (64, too): -4 goes first",
            "letter(114) ".repeat(64) + "letter(114)=-6 letter(-1)=-4 letter(256)=-6 letter(0)=-6 letter(255)=-6 "
            + "count(14)=1 count(16)=4 count(7)=64");
        edge("3: the letters become a SCHOOL, and are no more", "\"r;\"=1 count(7)=0 school()=-1000");
        edge("3: the FAULT, letters are no more",
            "\"r\"=-1001 count(7)=0 \"h0;\"=-2000 count(7)=0 school()=-1000 count(11)=0 count(14)=0 count(16)=0");
        edge("4: what 0 .. 7",
            "\"pb35;ps11;\" learn(0,1) sick(0,1) pupil(0,0)=4 pupil(0,1)=3 pupil(0,2)=5 pupil(0,3)=1 pupil(0,4)=1 "
            + "pupil(0,5)=1 pupil(0,6)=0 pupil(0,7)=1 pupil(0,8)=-2 pupil(0,-1)=-2 pupil(0,min)=-2 pupil(0,max)=-2");
        edge("4: KIND (0 s, 1 l, 2 h, 3 t, 4 b, 5 o)",
            "\"ps11;pl11;ph11;pt11;pb11;po11;\" pupil(0,0)=0 pupil(1,0)=1 pupil(2,0)=2 pupil(3,0)=3 pupil(4,0)=4 "
            + "pupil(5,0)=5");
        edge("4: -1: nobody, six, both sides",
            "pupil(0,0)=-1 \"" + SIX + "\" pupil(5,0)=0 pupil(6,0)=-1 pupil(-1,0)=-1 pupil(min,0)=-1 pupil(max,0)=-1");
        edge("4: -1; -2: in this order",
            "pupil(0,8)=-1 \"ps11;\" pupil(1,8)=-1 pupil(-1,-1)=-1 pupil(0,8)=-2 count(11)=3 count(12)=1");
        edge("4: SEAT (0 first), who sits to the left (-9 nobody)",
            "\"w;ps11;ps11;ps11;x02;\" pupil(2,6)=0 pupil(0,6)=2 pupil(2,7)=1 pupil(0,7)=-9 count(11)=0");
        edge("5: SICK (1) or not (0): what it was",
            "\"ps11;ps11;\" sick(1,1)=0 sick(1,1)=1 sick(1,0)=1 sick(1,0)=0 pupil(0,3)=0");
        edge("5: -1: nobody, six, both sides",
            "sick(0,1)=-1 \"" + SIX + "\" sick(5,1)=0 sick(6,1)=-1 sick(-1,1)=-1 pupil(5,3)=1 pupil(0,3)=0");
        edge("5: -2: both sides", "\"ps11;\" sick(0,2)=-2 sick(0,-1)=-2 sick(0,min)=-2 sick(0,max)=-2 pupil(0,3)=0");
        edge("5: -1; -2: in this order", "sick(0,2)=-1 \"ps11;\" sick(1,2)=-1 sick(-1,-1)=-1");
    }

    private static void promises6To10() {
        edge("6: LEARNS so many hours, TEACHES the rest: what it LEARNT",
            "\"h3;ps11;\" learn(0,0)=3 learns=0 learn(0,3)=0 learns=3 learn(0,1)=3 learns=1 learn(0,1)=1");
        edge("6: -1: nobody, six, both sides",
            "learn(0,1)=-1 \"" + SIX + "\" learn(5,1)=2 learn(6,1)=-1 learn(-1,1)=-1 learns=2,2,2,2,2,1");
        edge("6: -4", "\"ps11;\" learn(0,0)=2 learn(0,-1)=-4 learn(0,min)=-4 learns=0");
        for (int h = 1; h <= 3; h++) {
            edge("6: -6 HOURS: " + h,
                "\"h" + h + ";ps11;\" learn(0,0)=" + h + " learn(0," + (h + 1) + ")=-6 learns=0 learn(0," + h
                + ")=0 learn(0,max)=-6 learns=" + h);
        }
        edge("6: -1; -4; -6: in this order",
            "learn(0,-1)=-1 learn(0,9)=-1 \"ps11;\" learn(1,-1)=-1 learn(-1,9)=-1 learn(0,-1)=-4 learn(0,9)=-6");
        edge("7: Two change SEATS: 1", "\"ps11;ps11;ps11;\" swap(2,0)=1 seats=2,1,0 swap(2,0)=1 seats=0,1,2");
        edge("7: Two change SEATS: the first and the sixth",
            "\"" + SIX + "\" swap(0,5)=1 seats=5,1,2,3,4,0 pupil(5,7)=1 pupil(0,7)=5 pupil(4,7)=0");
        edge("7: Two change SEATS: two in a ROW",
            "\"w;ps11;ps11;\" pupil(0,7)=1 swap(0,1)=1 pupil(0,7)=-9 pupil(1,7)=0");
        edge("7: -1 either", "swap(0,1)=-1 \"ps11;\" swap(0,1)=-1 swap(1,0)=-1 \"ps11;\" swap(0,1)=1 swap(0,2)=-1 "
            + "swap(2,0)=-1 swap(-1,0)=-1 swap(0,-1)=-1 swap(min,max)=-1 seats=1,0");
        edge("7: -1 (one twice, too)",
            "swap(0,0)=-1 \"ps11;ps11;\" swap(0,0)=-1 swap(1,1)=-1 swap(2,2)=-1 count(11)=4 seats=0,1");
        edge("8: LAW: what it was", "law(0)=1 law(6)=0 law(6)=6 law(1)=6");
        edge("8: -2: both sides", "law(-1)=-2 law(7)=-2 law(min)=-2 law(max)=-2 count(3)=1");
        edge("9: PASS: what it was", "pass(0)=10 pass(99)=0 pass(99)=99 count(4)=99");
        edge("9: -4; -6 99", "pass(-1)=-4 pass(100)=-6 pass(min)=-4 pass(max)=-6 count(4)=10");
        edge("10: A WEEK goes by: WEEK", "\"ps11;\" week()=1 week()=2 count(2)=2 image()=2");
        edge("10: A WEEK goes by: 400 of them",
            "\"pt11;pt11;\" learn(0,0) " + "week() ".repeat(399) + "week()=400 count(2)=400 learns=0,2");
    }

    private static void promises11To16() {
        edge("11: -1: nobody, six, both sides",
            "knows(0)=-1 knows(-1)=-1 \"" + SIX + "\" knows(5)=2 knows(6)=-1 knows(-1)=-1 knows(min)=-1 knows(max)=-1");
        edge("12: -1: nobody, six, both sides",
            "mark(0)=-1 mark(-1)=-1 \"" + SIX + "\" mark(5)=2 mark(6)=-1 mark(-1)=-1 mark(min)=-1 mark(max)=-1");
        edge("13: PASSED (bits): none, the first, the last, all",
            "passed()=0 \"l0;h1;ps90;ps10;ps10;ps10;ps10;ps80;\" pass(10) passed()=0 pass(9) passed()=1 pass(8) "
            + "passed()=33 pass(0) passed()=63");
        edge("14: ALL: nobody, one alone, six",
            "all()=0 \"ps50;\" all()=10 \"w;\" all()=0 \"ps10;ps10;ps10;ps10;ps10;\" all()=10 \"r;\" all()=20");
        edge("15: pupil -1: ALL; PUPIL 0's is its own", "\"h1;ps90;ps50;\" after(-1,0)=14 after(0,0)=5 after(1,0)=9");
        edge("15: -1: nobody, six, both sides",
            "after(0,0)=-1 after(-1,0)=0 after(-2,0)=-1 \"" + SIX + "\" after(5,0)=2 after(6,0)=-1 after(-2,0)=-1 "
            + "after(min,0)=-1 after(max,0)=-1");
        edge("15: -4; -6 40",
            "\"ps11;\" after(0,0)=2 after(0,40)=2 after(0,-1)=-4 after(0,41)=-6 after(-1,-1)=-4 after(-1,41)=-6 "
            + "after(-1,40)=2");
        edge("15: -1; -4; -6: in this order",
            "after(0,-1)=-1 after(0,41)=-1 after(-2,-1)=-1 after(-2,41)=-1 after(-1,-1)=-4 after(-1,41)=-6");
        edge("16: AGAIN; -9 is no refusal",
            "\"ps11;\" again()=1 learn(0,0) again()=-9 learns=0 count(2)=0 count(11)=0");
    }

    private static void promises17To21() {
        edge("17: how many PASS (what 0), ALL (1)",
            "\"ps50;ps70;\" best(0)=2 best(1)=24 best(-1)=-2 best(2)=-2 best(min)=-2 best(max)=-2");
        edge("17: -3 there are no PUPILS", "best(0)=-3 best(1)=-3 \"ps00;\" best(0)=0 best(1)=0");
        edge("17: -2; -3: in this order", "best(2)=-2 best(-1)=-2 best(0)=-3 count(12)=2 count(13)=1");
        edge("18: the PUPIL on its i-th SEAT; -9 none such",
            "\"" + SIX + "\" bestSeat(0)=0 bestSeat(1)=1 bestSeat(2)=2 bestSeat(3)=3 bestSeat(4)=4 bestSeat(5)=5 "
            + "bestSeat(6)=-9 bestSeat(max)=-9");
        edge("18: -9 none such: nobody, one alone",
            "bestSeat(0)=-9 bestSeat(max)=-9 \"ps11;\" bestSeat(0)=0 bestSeat(1)=-9 count(13)=0");
        edge("18: -4", "bestSeat(-1)=-4 bestSeat(min)=-4 \"ps11;\" bestSeat(-1)=-4 bestSeat(min)=-4 count(14)=4");
        edge("18: the same whatever was asked in between",
            "\"w;h1;ps90;ps20;ps50;\" row(5) row(0) row(9) fitting(0)=-9 bestSeat(0)=1 sumLeast()=7 bestSeat(1)=0 "
            + "rests(0) bestSeat(2)=2");
        edge("19: -3 there are no PUPILS", "sumLeast()=-3 sumLeast()=-3 \"ps00;\" sumLeast()=0 count(13)=2");
        edge("20: how many (what 0), ALL of the first (1)",
            "\"l0;ps52;ps37;\" rests(0)=1 rests(1)=16 rests(-1)=-2 rests(2)=-2 rests(min)=-2 rests(max)=-2");
        edge("20: nobody: one way, and it RESTS", "rests(0)=1 rests(1)=0 rests(2)=-2");
        edge("21: LEARN in the first", "\"l0;h3;ps52;ps07;\" rest(0)=3 rest(1)=0 learns=3,3");
        edge("21: -1: nobody, six, both sides",
            "rest(0)=-1 rest(-1)=-1 \"l0;" + SIX + "\" rest(0)=2 rest(5)=2 rest(6)=-1 rest(-1)=-1 rest(min)=-1 "
            + "rest(max)=-1");
    }

    private static void promises22To26() {
        edge("22: GOOD: nobody, one alone, six",
            "good()=0 \"ps50;\" good()=10 \"ps50;ps50;ps50;ps50;ps50;\" good()=60 \"w;\" good()=50");
        edge("23: FAR: nobody, one alone, none apart", "far()=0 \"ps50;\" far()=0 \"l0;\" far()=0");
        edge("23: FAR: as the example of README", "\"h3;pb91;pb19;pt55;\" far()=24");
        edge("24: -2: both sides; LAW 0 and 6",
            "\"ps52;ps37;\" byLaw(0)=24 byLaw(6)=14 byLaw(-1)=-2 byLaw(7)=-2 byLaw(min)=-2 byLaw(max)=-2 count(3)=1 "
            + "good()=24");
        edge("25: how much more (what 0), whose MARKS (1; bits)",
            "\"ps52;ps37;ps44;\" hour(0,0)=5 hour(0,1)=4 hour(2,0)=4 hour(2,1)=2 hour(0,-1)=-2 hour(0,2)=-2 "
            + "hour(0,min)=-2 hour(0,max)=-2");
        edge("25: -1: nobody, six, both sides",
            "hour(0,0)=-1 \"" + SIX + "\" hour(5,0)=1 hour(5,1)=16 hour(0,1)=32 hour(6,0)=-1 hour(-1,0)=-1 "
            + "hour(min,0)=-1 hour(max,0)=-1");
        edge("25: -1; -2: in this order", "hour(0,2)=-1 \"ps11;\" hour(1,2)=-1 hour(-1,-1)=-1 hour(0,2)=-2");
        edge("26: -1 (bits that are none): nobody", "mends(0)=0 mends(1)=-1 mends(-1)=-1 mends(min)=-1 mends(max)=-1");
        edge("26: -1 (bits that are none): one alone",
            "\"m0;ps11;\" mends(0)=0 mends(1)=0 mends(2)=-1 mends(3)=-1 mends(min)=-1");
        edge("26: -1 (bits that are none): six",
            "\"m0;" + SIX + "\" mends(63)=0 mends(32)=0 mends(64)=-1 mends(127)=-1 mends(65)=-1 mends(min)=-1 "
            + "mends(-1)=-1 mends(max)=-1");
        edge("26: -9 is no refusal", "\"ps11;\" mends(1)=-9 count(11)=0");
    }

    private static void promises27To30() {
        edge("27: a number more (0 .. 99): how many",
            "row(0)=1 row(99)=2 row(-1)=-4 row(100)=-6 row(min)=-4 row(max)=-6 count(6)=2");
        edge("27: -6 (6, too): -4 goes first",
            "row(0)=1 row(0)=2 row(0)=3 row(0)=4 row(0)=5 row(0)=6 row(0)=-6 row(99)=-6 row(100)=-6 row(-1)=-4 "
            + "count(6)=6 count(14)=1 count(16)=3");
        edge("27: 6 at most, whoever there is",
            "\"ps11;\" row(2)=1 row(2)=2 row(2)=3 row(2)=4 row(2)=5 row(2)=6 row(2)=-6 judge()=1 row(2)=1");
        edge("27: a refused number is not in the ROW",
            "\"l0;h1;" + SIX + "\" row(1) row(-1)=-4 row(1) row(100)=-6 row(1) row(1) row(1) row(1)=6 row(0)=-6 "
            + "judge()=-9");
        edge("28: how many (i -1), the PUPIL on the i-th SEAT; -9 none such",
            "\"l0;h1;ps10;ps20;\" tells=1,2 fitting(-1)=1 fitting(0)=0 fitting(1)=1 fitting(2)=-9 fitting(max)=-9");
        edge("28: the ROW stays",
            "\"l0;h1;ps10;ps20;\" tells=1,2 fitting(-1)=1 count(6)=2 fitting(0)=0 fitting(-1)=1 forged()=3 judge()=-9");
        edge("28: -9 none such: none fits",
            "\"l0;h1;ps10;\" tells=9 fitting(-1)=0 fitting(0)=-9 fitting(1)=-9 count(11)=0");
        edge("28: -4 below -1", "\"l0;h1;ps10;\" tells=1 fitting(-2)=-4 fitting(min)=-4 fitting(-1)=1");
        edge("28: -3 the ROW is not as long as there are PUPILS: shorter by one, longer by one",
            "\"l0;h1;ps10;ps10;\" fitting(-1)=-3 row(1) fitting(-1)=-3 fitting(0)=-3 row(1) fitting(-1)=1 "
            + "row(1) fitting(-1)=-3 fitting(2)=-3");
        edge("28: -3: a PUPIL more makes it too short",
            "\"l0;h1;ps10;\" row(1) fitting(-1)=1 \"ps10;\" fitting(-1)=-3 row(1) fitting(-1)=1");
        edge("28: -3: of nobody a ROW of one is too long", "fitting(-1)=1 row(0) fitting(-1)=-3 forged()=-3");
        edge("28: -4; -3: in this order", "\"ps11;\" fitting(-2)=-4 fitting(-1)=-3 count(13)=1 count(14)=1");
        edge("28: six, too short by one and full",
            "\"l0;h1;" + SIX + "\" tells=1,1,1,1,1 fitting(-1)=-3 row(1) fitting(-1)=120 \"w;\" fitting(-1)=720");
        edge("29: -3 likewise: shorter by one, longer by one",
            "\"l0;h1;ps10;ps10;\" forged()=-3 row(1) forged()=-3 row(1) forged()=3 row(1) forged()=-3 count(13)=3");
        edge("29: the ROW stays", "\"l0;h1;ps10;ps10;\" tells=1,7 forged()=2 count(6)=2 forged()=2 judge()=1");
        edge("30: the ROW has none then",
            "\"l0;h1;ps10;\" tells=1 judge()=-9 count(6)=0 judge()=0 tells=2 judge()=0 count(6)=0 tells=1,1 "
            + "judge()=1 count(6)=0 fitting(-1)=-3");
        edge("30: -9 is no refusal", "judge()=-9 count(11)=0 count(13)=0");
    }

    private static void promises31To33() {
        edge("31: -4; -6 20",
            "\"m0;ps11;\" seeds(0,1)=-4 seeds(-1,1)=-4 seeds(1,1)=1 seeds(20,1)=20 seeds(21,1)=-6 seeds(min,1)=-4 "
            + "seeds(max,1)=-6");
        edge("31: -3 there are no PUPILS", "seeds(1,1)=-3 seeds(20,1)=-3 \"m0;ps11;\" seeds(1,1)=1");
        edge("31: -4; -6; -3: in this order",
            "seeds(0,1)=-4 seeds(21,1)=-6 seeds(1,1)=-3 count(13)=1 count(14)=1 count(16)=1");
        edge("31: the same seed, the same answer",
            "\"w;m9;h1;po90;po10;po10;\" seeds(20,5)=13 seeds(1,5) seeds(20,5)=13");
        edge("32: THE IMAGE is taken: WEEK", "image()=0 week() image()=1 week() week() image()=3 on()=3");
        edge("32: of nobody", "image()=0 \"ps11;\" on()=0 count(0)=0");
        edge("33: -3 there is none",
            "on()=-3 \"ps11;\" week() on()=-3 count(0)=1 count(2)=1 image()=1 on()=1 count(13)=2");
        edge("33: ON from it, as often as wanted", "image()=0 week() on()=0 week() week() on()=0 week()=1");
        edge("33: ON from it all is as then",
            "\"pt11;pt11;\" learn(0,0) image() week() learns=2,0 week() week() learns=2,0 on() learns=0,2 "
            + "after(0,1)=0 week()=1 learns=2,0");
    }

    private static void promise34() {
        edge("34: 0 PUPILS: 0 and 6", "count(0)=0 \"" + SIX + "\" count(0)=6");
        edge("34: 5 1 a RING", "count(5)=1 \"w;\" count(5)=0 \"r;\" count(5)=1");
        edge("34: 6 in the ROW: 0 and 6",
            "count(6)=0 row(1) row(1) row(1) row(1) row(1) row(1) count(6)=6 judge() count(6)=0");
        edge("34: 7 letters: 0 and 64", "count(7)=0 " + "letter(1) ".repeat(64) + "count(7)=64 school() count(7)=0");
        edge("34: -9 for another what",
            "count(-1)=-9 count(8)=-9 count(9)=-9 count(10)=-9 count(17)=-9 count(min)=-9 count(max)=-9 "
            + "count(100)=-9 count(-11)=-9 count(11)=0 count(12)=0 count(13)=0 count(14)=0 count(15)=0 count(16)=0");
        edge("34: 11 .. 16 REFUSALS -1 .. -6",
            "mark(0)=-1 law(7)=-2 law(7)=-2 on()=-3 on()=-3 on()=-3 " + "pass(-1)=-4 ".repeat(4)
            + "pass(100)=-6 ".repeat(5)
            + "count(11)=1 count(12)=2 count(13)=3 count(14)=4 count(15)=0 count(16)=5");
        edge("34: REFUSALS: no call refuses with -5",
            "letter(-1) letter(256) pupil(0,0) law(9) pass(-1) pass(100) best(0) on() row(-1) row(100) fitting(-2) "
            + "seeds(0,0) count(15)=0");
        edge("34: REFUSALS: 400 of one number", "law(9) ".repeat(400) + "count(12)=400");
    }
}
