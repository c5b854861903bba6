/** Each promise of the document: ordinary inputs, the edges it names, and wrong inputs. */
public final class PromisesTest {
    private static final Due d = new Due();

    public static void main(String[] args) {
        promise1();
        promise2();
        promise3Shape();
        promise3Range();
        promise3Comes();
        promise4();
        promise5();
        promise6();
        promise7();
        promise8();
        promise9();
        promise10();
        promise10Sits();
        promise11();
        promise12();
        promise13();
        promise14();
        promise15();
        promise16();
        promise17();
        promise18();
        promise19();
        promise20();
        promise21();
        promise22();
        promise23();
        promise24();
        promise25();
        promise26();
        promise27();
        promise28();
        promise29();
        promise30();
        promise31();
        promise32();
        promise33();
        promise34();
        refusedCallsChangeNothing();
        d.end();
    }

    private static void due(String call, long got, long want) {
        d.due(call, got, want);
    }

    private static NeighboursMark of(String text) {
        return Due.of(text);
    }

    private static void marks(String when, NeighboursMark x, int... want) {
        for (int p = 0; p < want.length; p++) {
            due(when + " mark(" + p + ")", x.mark(p), want[p]);
        }
    }

    private static void learns(String when, NeighboursMark x, int... want) {
        for (int p = 0; p < want.length; p++) {
            due(when + " learn of " + p, x.pupil(p, 4), want[p]);
            due(when + " teach of " + p, x.pupil(p, 5), x.count(1) - want[p]);
        }
    }

    private static void seats(String when, NeighboursMark x, int... pupils) {
        for (int i = 0; i < pupils.length; i++) {
            due(when + " seat of " + pupils[i], x.pupil(pupils[i], 6), i);
        }
    }

    private static void promise1() {
        d.part("promise 1");
        NeighboursMark x = new NeighboursMark();
        int[] want = {0, 2, 0, 1, 10, 1, 0, 0};
        for (int what = 0; what < want.length; what++) {
            due("count(" + what + ")", x.count(what), want[what]);
        }
        for (int what = 11; what <= 16; what++) {
            due("count(" + what + ")", x.count(what), 0);
        }
        due("passed", x.passed(), 0);
        due("all", x.all(), 0);
    }

    private static void promise2() {
        d.part("promise 2");
        NeighboursMark x = new NeighboursMark();
        due("letter(0)", x.letter(0), 1);
        due("letter(255)", x.letter(255), 2);
        due("letter(-1)", x.letter(-1), -4);
        due("letter(256)", x.letter(256), -6);
        due("letter(least int)", x.letter(Integer.MIN_VALUE), -4);
        due("letter(greatest int)", x.letter(Integer.MAX_VALUE), -6);
        due("letters", x.count(7), 2);
        for (int n = 3; n <= 64; n++) {
            due("letter " + n, x.letter('r'), n);
        }
        due("the 65th", x.letter('r'), -6);
        due("below comes first", x.letter(-1), -4);
        due("letters", x.count(7), 64);
        due("-4", x.count(14), 3);
        due("-6", x.count(16), 3);
    }

    private static void fault(String text, int want) {
        NeighboursMark x = new NeighboursMark();
        due("school of \"" + text + "\"", Due.tell(x, text), want);
        due("letters after \"" + text + "\"", x.count(7), 0);
        if (want < 0) {
            int[] state = {0, 2, 0, 1, 10, 1};
            for (int what = 0; what < state.length; what++) {
                due("count(" + what + ") after \"" + text + "\"", x.count(what), state[what]);
            }
        }
        for (int what = 11; what <= 16; what++) {
            due("count(" + what + ") after \"" + text + "\"", x.count(what), 0);
        }
    }

    private static void promise3Shape() {
        d.part("promise 3, kind 1");
        fault("", -1000);
        fault(";", -1000);
        fault("q", -1000);
        fault("P", -1000);
        fault("0", -1000);
        fault("p", -1001);
        fault("pq11;", -1001);
        fault("p111;", -1001);
        fault("ps", -1002);
        fault("ps:1;", -1002);
        fault("ps/1;", -1002);
        fault("ps1", -1003);
        fault("ps1;", -1003);
        fault("ps11", -1004);
        fault("ps111;", -1004);
        fault("ps11;;", -1005);
        fault("ps11;q", -1005);
        fault("h;", -1001);
        fault("h22;", -1002);
        fault("l;", -1001);
        fault("l11;", -1002);
        fault("r", -1001);
        fault("r1;", -1001);
        fault("w1;", -1001);
        fault("x;", -1001);
        fault("x1;", -1002);
        fault("x123;", -1003);
        fault("m;", -1001);
        fault("m1", -1002);
        fault("m12", -1003);
        fault("m123;", -1003);
        fault("h9;x00;l9;q", -1010);
        fault("h9;m12", -1006);
        String full = "r;".repeat(32);
        fault(full, 32);
        fault(full.substring(0, 63) + "r", -1063);
        fault(full.substring(0, 62) + "hr", -1063);
        fault(full.substring(0, 62) + "h1", -1064);
    }

    private static void promise3Range() {
        d.part("promise 3, kind 2");
        fault("h0;", -2000);
        fault("h4;", -2000);
        fault("h9;", -2000);
        fault("l7;", -2000);
        fault("l9;", -2000);
        fault("x01;", -2000);
        fault("ps11;x00;", -2005);
        fault("ps11;x01;", -2005);
        fault("ps11;x10;", -2005);
        fault("ps11;x01;ps11;", -2005);
        fault("w;l2;m50;h1;ps11;h0;l9;", -2017);
        fault("ps11;ps11;ps11;ps11;ps11;ps11;", 6);
        fault("ps11;ps11;ps11;ps11;ps11;ps11;ps11;h0;", -2030);
        fault("ps11;ps11;ps11;ps11;ps11;ps11;h0;ps11;", -2030);
        fault("h1;h2;h3;l0;l6;r;w;m0;m99;m00;", 10);
        NeighboursMark x = of("ps11;ps11;ps11;ps11;ps11;");
        due("two more than fit", Due.tell(x, "ps11;ps11;"), -2005);
        due("of these none came", x.count(0), 5);
        due("one more", Due.tell(x, "ps11;"), 1);
        due("one too many", Due.tell(x, "ps11;"), -2000);
        due("pupils", x.count(0), 6);
    }

    private static void promise3Comes() {
        d.part("promise 3");
        NeighboursMark x = new NeighboursMark();
        due("school", Due.tell(x, "h3;w;l4;m07;ps52;pl37;ph04;x02;"), 8);
        int[] want = {3, 3, 0, 4, 7, 0};
        for (int what = 0; what < want.length; what++) {
            due("count(" + what + ")", x.count(what), want[what]);
        }
        learns("all at first", x, 3, 3, 3);
        seats("x02", x, 2, 1, 0);
        due("m0", Due.tell(x, "m0;"), 1);
        due("pass", x.count(4), 0);
        due("m90", Due.tell(x, "m90;"), 1);
        due("pass", x.count(4), 90);
        due("a new one sits last", Due.tell(x, "pt11;r;"), 2);
        seats("pt11", x, 2, 1, 0, 3);
        due("ring", x.count(5), 1);
        x.learn(0, 1);
        x.sick(1, 1);
        x.week();
        x.learn(0, 1);
        due("hours as they are: all learn them", Due.tell(x, "h3;"), 1);
        learns("h3", x, 3, 3, 3, 3);
        due("h1", Due.tell(x, "h1;pb22;h2;po33;"), 4);
        learns("h2", x, 2, 2, 2, 2, 2, 2);
        due("the week stays", x.count(2), 1);
        due("the sick one stays so", x.pupil(1, 3), 1);
        due("a fault leaves all", Due.tell(x, "h1;l0;x45;m11;w;h5;"), -2016);
        seats("fault", x, 2, 1, 0, 3, 4, 5);
        due("hours", x.count(1), 2);
        due("law", x.count(3), 4);
        due("pass", x.count(4), 90);
        due("ring", x.count(5), 1);
        due("a pupil told before may change", Due.tell(x, "x50;x52;"), 2);
        seats("x50 x52", x, 5, 1, 2, 3, 4, 0);
    }

    private static void promise4() {
        d.part("promise 4");
        NeighboursMark x = of("ps52;pl37;ph04;pt90;pb19;po55;");
        int[][] want = {
            {0, 5, 2, 0, 2, 0, 0, 1}, {1, 3, 7, 0, 2, 0, 1, 2}, {2, 0, 4, 0, 2, 0, 2, 3},
            {3, 9, 0, 0, 2, 0, 3, 4}, {4, 1, 9, 0, 2, 0, 4, 5}, {5, 5, 5, 0, 2, 0, 5, 0}};
        for (int p = 0; p < want.length; p++) {
            for (int what = 0; what < 8; what++) {
                due("pupil(" + p + ", " + what + ")", x.pupil(p, what), want[p][what]);
            }
        }
        due("pupil(6, 0)", x.pupil(6, 0), -1);
        due("pupil(-1, 0)", x.pupil(-1, 0), -1);
        due("pupil(6, 8)", x.pupil(6, 8), -1);
        due("pupil(0, 8)", x.pupil(0, 8), -2);
        due("pupil(0, -1)", x.pupil(0, -1), -2);
        due("-1", x.count(11), 3);
        due("-2", x.count(12), 2);
        Due.tell(x, "w;x05;");
        due("the last in a row", x.pupil(0, 7), -9);
        due("the first in a row", x.pupil(5, 7), 1);
        due("none but the last has nobody", x.pupil(4, 7), 0);
        due("the last's seat", x.pupil(0, 6), 5);
        NeighboursMark alone = of("ps52;");
        due("one alone", alone.pupil(0, 7), 0);
        Due.tell(alone, "w;");
        due("one alone in a row", alone.pupil(0, 7), -9);
    }

    private static void promise5() {
        d.part("promise 5");
        NeighboursMark x = of("ps52;pl37;");
        due("sick(0, 1)", x.sick(0, 1), 0);
        due("sick(0, 1)", x.sick(0, 1), 1);
        due("pupil(0, 3)", x.pupil(0, 3), 1);
        due("pupil(1, 3)", x.pupil(1, 3), 0);
        due("sick(0, 0)", x.sick(0, 0), 1);
        due("pupil(0, 3)", x.pupil(0, 3), 0);
        due("sick(2, 1)", x.sick(2, 1), -1);
        due("sick(-1, 5)", x.sick(-1, 5), -1);
        due("sick(0, 2)", x.sick(0, 2), -2);
        due("sick(0, -1)", x.sick(0, -1), -2);
        due("pupil(0, 3)", x.pupil(0, 3), 0);
    }

    private static void promise6() {
        d.part("promise 6");
        NeighboursMark x = of("ps52;pl37;");
        due("learn(0, 0)", x.learn(0, 0), 2);
        due("learn(0, 1)", x.learn(0, 1), 0);
        due("learn(1, 2)", x.learn(1, 2), 2);
        learns("then", x, 1, 2);
        due("learn(0, 3)", x.learn(0, 3), -6);
        due("learn(0, -1)", x.learn(0, -1), -4);
        due("learn(2, -1)", x.learn(2, -1), -1);
        due("learn(-1, 3)", x.learn(-1, 3), -1);
        learns("still", x, 1, 2);
        Due.tell(x, "h3;");
        due("learn(0, 3) of 3", x.learn(0, 3), 3);
        due("learn(0, 4) of 3", x.learn(0, 4), -6);
    }

    private static void promise7() {
        d.part("promise 7");
        NeighboursMark x = of("ps52;pl37;ph44;");
        due("swap(0, 2)", x.swap(0, 2), 1);
        seats("swapped", x, 2, 1, 0);
        due("left of 2", x.pupil(2, 7), 1);
        due("left of 0", x.pupil(0, 7), 2);
        due("swap(1, 2)", x.swap(1, 2), 1);
        seats("swapped again", x, 1, 2, 0);
        due("swap(1, 1)", x.swap(1, 1), -1);
        due("swap(1, 3)", x.swap(1, 3), -1);
        due("swap(3, 1)", x.swap(3, 1), -1);
        due("swap(-1, 1)", x.swap(-1, 1), -1);
        seats("as before", x, 1, 2, 0);
        due("-1", x.count(11), 4);
    }

    private static void promise8() {
        d.part("promise 8");
        NeighboursMark x = new NeighboursMark();
        due("law(6)", x.law(6), 1);
        due("law(0)", x.law(0), 6);
        due("law(7)", x.law(7), -2);
        due("law(-1)", x.law(-1), -2);
        due("count(3)", x.count(3), 0);
    }

    private static void promise9() {
        d.part("promise 9");
        NeighboursMark x = new NeighboursMark();
        due("pass(99)", x.pass(99), 10);
        due("pass(0)", x.pass(0), 99);
        due("pass(-1)", x.pass(-1), -4);
        due("pass(100)", x.pass(100), -6);
        due("count(4)", x.count(4), 0);
    }

    private static void promise10() {
        d.part("promise 10");
        NeighboursMark x = of("h3;ps11;pl11;ph11;pt11;pb19;po11;");
        x.learn(0, 0);
        x.learn(5, 1);
        due("week", x.week(), 1);
        // t: 2 taught nothing; b's mark by LEFT is 5's: 1 * 1 and 9 for each hour taught.
        learns("week 1", x, 3, 0, 2, 3, 0, 1);
        due("week", x.week(), 2);
        // 2 taught an hour in the WEEK ahead.
        learns("week 2", x, 3, 0, 2, 0, 0, 1);
        due("count(2)", x.count(2), 2);
        Due.tell(x, "w;x03;");
        x.week();
        // t sits first in a ROW now: nobody has it to the left.
        learns("first in a row", x, 3, 0, 2, 3, 0, 1);
        NeighboursMark h = of("h1;ph11;pb90;");
        h.learn(0, 0);
        h.learn(1, 0);
        h.week();
        // Half of one hour, cut, is none; b's mark is the same for all, so it teaches the fewest.
        learns("h1", h, 1, 1);
        NeighboursMark nobody = new NeighboursMark();
        due("a week of nobody", nobody.week(), 1);
        // An object is promised for 512 calls only; the bound is looked at all the same.
        NeighboursMark many = of("ps11;");
        for (int n = 1; n <= 999; n++) {
            due("week " + n, many.week(), n);
        }
        due("the week behind 999", many.week(), -6);
        due("week", many.count(2), 999);
        due("-6", many.count(16), 1);
    }

    private static void promise10Sits() {
        d.part("promise 10, trust and best");
        NeighboursMark x = of("pt11;pt11;pt11;");
        x.learn(0, 1);
        x.week();
        learns("what one taught goes round", x, 2, 0, 2);
        x.week();
        learns("one further", x, 2, 2, 0);
        NeighboursMark own = of("l0;pb11;pb11;");
        own.learn(0, 0);
        own.learn(1, 1);
        own.week();
        learns("by OWN they learn", own, 2, 2);
        NeighboursMark mean = of("h3;l5;pb27;pb72;");
        mean.week();
        learns("by MEAN the better one", mean, 0, 3);
        NeighboursMark least = of("h3;l6;pb55;po15;");
        least.learn(1, 3);
        least.week();
        // 0 KNOWS 5, 10, 15 by LEARN 1, 2, 3; 1 KNOWS 3 + 5 * TEACH: the least is 5 (1), 8 (2), 3 (3).
        learns("by LEAST in the midst", least, 2, 3);
        NeighboursMark sick = of("pb19;po11;");
        sick.sick(0, 1);
        sick.learn(0, 0);
        sick.week();
        learns("a sick one's teaching is worth nothing", sick, 2, 2);
        NeighboursMark alone = of("pt19;");
        alone.learn(0, 1);
        alone.week();
        learns("one alone has itself to the left", alone, 0);
    }

    private static void promise11() {
        d.part("promise 11");
        NeighboursMark x = of("h3;ps52;pl37;ph44;");
        x.learn(0, 1);
        x.learn(1, 2);
        x.learn(2, 0);
        due("knows(0)", x.knows(0), 5 + 4 * 3);
        due("knows(1)", x.knows(1), 3 * 2 + 2 * 2);
        due("knows(2)", x.knows(2), 7);
        x.sick(2, 1);
        due("nothing comes of a sick one", x.knows(0), 5);
        due("a sick one knows 0", x.knows(2), 0);
        x.sick(2, 0);
        Due.tell(x, "w;");
        due("nobody teaches the first of a row", x.knows(0), 5);
        due("the second", x.knows(1), 10);
        due("knows(3)", x.knows(3), -1);
        due("knows(-1)", x.knows(-1), -1);
        NeighboursMark alone = of("ps35;");
        alone.learn(0, 1);
        due("one alone teaches itself", alone.knows(0), 8);
        Due.tell(alone, "w;");
        due("not in a row", alone.knows(0), 3);
    }

    private static void promise12() {
        d.part("promise 12");
        // KNOWS: 9, 6, 8, 3.
        NeighboursMark x = of("h1;ps91;ps61;ps81;ps31;");
        x.law(0);
        marks("own", x, 9, 6, 8, 3);
        x.law(1);
        marks("left", x, 6, 8, 3, 9);
        x.law(2);
        marks("right", x, 3, 9, 6, 8);
        x.law(3);
        marks("both", x, 4, 8, 4, 8);
        x.law(4);
        marks("halves", x, 7, 7, 5, 6);
        x.law(5);
        marks("mean", x, 6, 6, 6, 6);
        x.law(6);
        marks("least", x, 3, 3, 3, 3);
        x.sick(2, 1);
        marks("least with a sick one", x, 0, 0, 0, 0);
        x.law(5);
        marks("mean with a sick one", x, 4, 4, 4, 4);
        x.law(1);
        marks("left with a sick one", x, 6, 0, 3, 9);
        x.sick(2, 0);
        Due.tell(x, "w;");
        marks("left in a row", x, 6, 8, 3, 0);
        x.law(2);
        marks("right in a row", x, 0, 9, 6, 8);
        x.law(3);
        marks("both in a row", x, 3, 8, 4, 4);
        x.law(4);
        marks("halves in a row", x, 7, 7, 5, 1);
        due("mark(4)", x.mark(4), -1);
        due("mark(-1)", x.mark(-1), -1);
    }

    private static void promise13() {
        d.part("promise 13");
        NeighboursMark x = of("h1;ps91;ps61;ps81;ps31;m8;");
        due("passed", x.passed(), 2 | 8);
        x.pass(9);
        due("passed 9", x.passed(), 8);
        x.pass(10);
        due("passed 10", x.passed(), 0);
        x.pass(0);
        due("passed 0", x.passed(), 15);
    }

    private static void promise14() {
        d.part("promise 14");
        NeighboursMark x = of("h1;ps91;ps61;ps81;ps31;");
        due("left", x.all(), 26);
        x.law(3);
        due("both", x.all(), 24);
        x.law(5);
        due("mean", x.all(), 24);
        x.law(6);
        due("least", x.all(), 12);
    }

    private static void promise15() {
        d.part("promise 15");
        NeighboursMark x = of("pt11;pt11;pt11;l2;");
        x.learn(0, 1);
        // RIGHT: 0 has 2's. KNOWS: 1, 3, 2; then 2, 0, 4; then 4, 2, 0; then 0, 4, 2; ..
        int[][] want = {{2, 1, 3}, {4, 2, 0}, {0, 4, 2}, {2, 0, 4}, {4, 2, 0}};
        for (int n = 0; n < want.length; n++) {
            for (int p = 0; p < 3; p++) {
                due("after(" + p + ", " + n + ")", x.after(p, n), want[n][p]);
            }
            due("after(-1, " + n + ")", x.after(-1, n), 6);
        }
        due("after(0, 40)", x.after(0, 40), 4);
        due("after(0, 41)", x.after(0, 41), -6);
        due("after(0, -1)", x.after(0, -1), -4);
        due("after(3, -1)", x.after(3, -1), -1);
        due("after(-2, 41)", x.after(-2, 41), -1);
        due("after(-1, 41)", x.after(-1, 41), -6);
        learns("only in mind", x, 1, 2, 2);
        due("week", x.count(2), 0);
    }

    private static void promise16() {
        d.part("promise 16");
        NeighboursMark x = of("pt11;pt11;pt11;");
        x.learn(0, 0);
        due("three weeks", x.again(), 3);
        x.learn(0, 1);
        due("1 never comes again", x.again(), -9);
        NeighboursMark six = of("pt11;pt11;pt11;pt11;pt11;pt11;");
        six.learn(0, 0);
        due("six weeks", six.again(), 6);
        six.learn(3, 0);
        due("three weeks of six", six.again(), 3);
        due("30 weeks", learning("h3;l5;pt54;pb31;pb34;pt98;pt79;pt49;", 0, 3, 3, 0, 0, 3).again(), 30);
        due("31 weeks", learning("h1;l4;pt00;pt41;pb45;pt51;pt88;", 1, 0, 0, 1, 1).again(), -9);
        due("stays", of("po11;").again(), 1);
        due("nobody", new NeighboursMark().again(), 1);
        due("only in mind", six.count(2), 0);
        due("only in mind", six.pupil(0, 4), 0);
    }

    private static NeighboursMark learning(String text, int... hours) {
        NeighboursMark x = of(text);
        for (int p = 0; p < hours.length; p++) {
            x.learn(p, hours[p]);
        }
        return x;
    }

    private static void promise17() {
        d.part("promise 17");
        // A ROW by LEFT: all but the first's are MARKS; the first must be the one who KNOWS least.
        NeighboursMark x = of("w;h1;ps91;ps21;ps51;m5;");
        due("best(0)", x.best(0), 2);
        due("best(1)", x.best(1), 14);
        x.pass(9);
        due("most passing", x.best(0), 1);
        due("then the greatest all", x.best(1), 14);
        x.pass(99);
        due("none passes", x.best(0), 0);
        due("best(2)", x.best(2), -2);
        due("best(-1)", x.best(-1), -2);
        NeighboursMark none = new NeighboursMark();
        due("best(2) of nobody", none.best(2), -2);
        due("best(0) of nobody", none.best(0), -3);
        due("best(1) of nobody", none.best(1), -3);
        seats("only in mind", x, 0, 1, 2);
        // More PASS comes before a greater ALL: by BOTH cut halves make ALL differ.
        NeighboursMark b = of("w;h1;l3;ps91;ps81;ps11;m4;");
        due("both best(0)", b.best(0), 3);
        // 0 1 2: 4, 5, 4. (0 2 1: 0, 0, 8. 1 0 2: 4, 4, 4.)
        due("both best(1)", b.best(1), 13);
    }

    private static void promise18() {
        d.part("promise 18");
        NeighboursMark x = of("w;h1;ps91;ps21;ps51;m5;");
        due("bestSeat(0)", x.bestSeat(0), 1);
        due("bestSeat(1)", x.bestSeat(1), 0);
        due("bestSeat(2)", x.bestSeat(2), 2);
        due("bestSeat(3)", x.bestSeat(3), -9);
        due("bestSeat(-1)", x.bestSeat(-1), -4);
        NeighboursMark ring = of("h1;ps91;ps21;ps51;x02;");
        for (int i = 0; i < 3; i++) {
            due("0 first in a ring, the first of several: bestSeat(" + i + ")", ring.bestSeat(i), i);
        }
        due("of nobody", new NeighboursMark().bestSeat(0), -9);
        due("of nobody", new NeighboursMark().bestSeat(-1), -4);
    }

    private static void promise19() {
        d.part("promise 19");
        NeighboursMark x = of("w;h1;ps91;ps21;ps51;m5;");
        due("the one who knows most sits first", x.sumLeast(), 7);
        x.law(0);
        due("own", x.sumLeast(), 16);
        due("nobody", new NeighboursMark().sumLeast(), -3);
    }

    private static void promise20() {
        d.part("promise 20");
        // By OWN each LEARNS all: one way, if QUICK is more than 0.
        NeighboursMark x = of("l0;ps52;ps37;");
        due("own", x.rests(0), 1);
        due("own all", x.rests(1), 16);
        // By RIGHT of three nobody's hours are worth anything to itself.
        NeighboursMark r = of("h3;l2;ps52;ps37;ps11;");
        due("right", r.rests(0), 64);
        due("right: all of the first", r.rests(1), 30);
        due("rests(2)", r.rests(2), -2);
        due("rests(-1)", r.rests(-1), -2);
        NeighboursMark zero = of("h1;ps00;ps00;");
        due("all rest", zero.rests(0), 4);
        due("nobody", new NeighboursMark().rests(0), 1);
        due("nobody's all", new NeighboursMark().rests(1), 0);
        learns("only in mind", x, 2, 2);
    }

    /**
     * -9 can't be met, for some way always RESTS: by MEAN and LEAST the best for all does; by the other LAWS what is
     * best for one is so whatever the others do.
     */
    private static void promise21() {
        d.part("promise 21");
        NeighboursMark x = of("l0;ps52;ps07;");
        due("rest(0)", x.rest(0), 2);
        due("of several the first", x.rest(1), 0);
        due("rest(2)", x.rest(2), -1);
        due("rest(-1)", x.rest(-1), -1);
        due("nobody", new NeighboursMark().rest(0), -1);
    }

    private static void promise22() {
        d.part("promise 22");
        NeighboursMark x = of("ps52;ps37;");
        due("good", x.good(), 2 * 5 + 2 * 7);
        x.sick(0, 1);
        // What 0 does is worth nothing; 1 can but LEARN: 0 KNOWS 0.
        due("with a sick one", x.good(), 6);
        due("nobody", new NeighboursMark().good(), 0);
    }

    private static void promise23() {
        d.part("promise 23");
        // By OWN all LEARN (16); the best for all is 24.
        NeighboursMark x = of("l0;ps52;ps37;");
        due("far", x.far(), 8);
        x.law(5);
        due("by mean the best rests", x.far(), 0);
        due("nobody", new NeighboursMark().far(), 0);
    }

    private static void promise24() {
        d.part("promise 24");
        NeighboursMark x = of("w;ps52;ps37;");
        // KNOWS: 5 L0; 3 L1 + 2 T0.
        int[] want = {16, 10, 10, 8, 11, 16, 12};
        for (int law = 0; law < want.length; law++) {
            due("byLaw(" + law + ")", x.byLaw(law), want[law]);
        }
        due("byLaw(7)", x.byLaw(7), -2);
        due("byLaw(-1)", x.byLaw(-1), -2);
        due("the law stays", x.count(3), 1);
    }

    private static void promise25() {
        d.part("promise 25");
        NeighboursMark x = of("ps52;ps37;ps44;");
        due("hour(0, 0)", x.hour(0, 0), 5);
        due("hour(0, 1)", x.hour(0, 1), 4);
        x.learn(0, 0);
        due("what is taught stays", x.hour(0, 0), 5);
        x.law(3);
        // KNOWS 0, 10, 8; BOTH: 9, 4, 5; with 5: 9, 6, 7.
        due("both", x.hour(0, 0), 4);
        due("both's", x.hour(0, 1), 6);
        x.law(5);
        // 18 by 3; 23 by 3.
        due("mean", x.hour(0, 0), 3);
        due("mean's", x.hour(0, 1), 7);
        x.sick(0, 1);
        due("a sick one", x.hour(0, 0), 0);
        due("a sick one's", x.hour(0, 1), 0);
        due("hour(3, 2)", x.hour(3, 2), -1);
        due("hour(-1, 0)", x.hour(-1, 0), -1);
        due("hour(0, 2)", x.hour(0, 2), -2);
        due("hour(0, -1)", x.hour(0, -1), -2);
        learns("only in mind", x, 0, 2, 2);
    }

    private static void promise26() {
        d.part("promise 26");
        // By LEFT in a ROW: whoever has 9 to the left PASSES.
        NeighboursMark x = of("w;h1;ps91;ps11;ps11;ps11;m9;");
        due("mends(0)", x.mends(0), 0);
        due("mends(2)", x.mends(2), 1);
        due("mends(4)", x.mends(4), 1);
        due("two", x.mends(6), -9);
        due("itself never", x.mends(1), -9);
        due("mends(16)", x.mends(16), -1);
        due("mends(-1)", x.mends(-1), -1);
        due("mends(least)", x.mends(Integer.MIN_VALUE), -1);
        seats("only in mind", x, 0, 1, 2, 3);
        // 1 and 3 each want one of 0 and 2 to the left: 0 1 2 3 becomes 1 0 3 2 or 3 2 1 0.
        NeighboursMark two = of("w;h1;ps91;ps11;ps91;ps11;m9;");
        due("now", two.passed(), 2);
        due("both", two.mends(2 | 8), 2);
        // 1, 3 and 5 each want a 9 to the left: of all six SEATS each is wrong, and a change mends but two.
        due("three would", of("w;h1;ps91;ps11;ps91;ps11;ps91;ps11;m9;").mends(2 | 8 | 32), -9);
        due("2 has one already", of("w;h1;ps11;ps91;m9;").mends(1), 0);
        due("one alone", of("ps11;").mends(1), -9);
        due("nobody", new NeighboursMark().mends(1), -1);
    }

    private static void promise27() {
        d.part("promise 27");
        NeighboursMark x = new NeighboursMark();
        due("row(0)", x.row(0), 1);
        due("row(99)", x.row(99), 2);
        due("row(-1)", x.row(-1), -4);
        due("row(100)", x.row(100), -6);
        for (int n = 3; n <= 6; n++) {
            due("row", x.row(5), n);
        }
        due("the seventh", x.row(5), -6);
        due("below comes first", x.row(-1), -4);
        due("count(6)", x.count(6), 6);
    }

    private static void tellRow(NeighboursMark x, int... numbers) {
        x.judge();
        for (int v : numbers) {
            x.row(v);
        }
    }

    private static void promise28() {
        d.part("promise 28");
        NeighboursMark x = of("w;h1;ps91;ps51;ps21;");
        due("too short", x.fitting(-1), -3);
        due("below comes first", x.fitting(-2), -4);
        tellRow(x, 5, 0, 9);
        due("how many", x.fitting(-1), 1);
        due("seat 0", x.fitting(0), 2);
        due("seat 1", x.fitting(1), 0);
        due("seat 2", x.fitting(2), 1);
        due("seat 3", x.fitting(3), -9);
        due("the row stays", x.count(6), 3);
        x.row(1);
        due("too long", x.fitting(-1), -3);
        tellRow(x, 5, 9, 2);
        due("none", x.fitting(-1), 0);
        due("none's", x.fitting(0), -9);
        x.law(0);
        tellRow(x, 9, 5, 2);
        due("all fit", x.fitting(-1), 6);
        for (int i = 0; i < 3; i++) {
            due("the first", x.fitting(i), i);
        }
        Due.tell(x, "r;");
        due("in a ring 0 sits first", x.fitting(-1), 2);
        NeighboursMark none = new NeighboursMark();
        due("nobody", none.fitting(-1), 1);
        due("nobody's", none.fitting(0), -9);
        seats("only in mind", x, 0, 1, 2);
    }

    private static void promise29() {
        d.part("promise 29");
        NeighboursMark x = of("w;h1;ps91;ps51;ps21;");
        due("too short", x.forged(), -3);
        tellRow(x, 5, 0, 9);
        due("where all fit each may be wrong", x.forged(), 7);
        tellRow(x, 5, 1, 9);
        // 2 0 1 but for 1's.
        due("only 1", x.forged(), 2);
        tellRow(x, 5, 2, 9);
        // But for 0's: 1 2 0, 2 to 1's left, 0 to 2's: 0 has 0. But for 1's: 2 0 1. But for 2's: 0 1 2.
        due("each of three", x.forged(), 7);
        tellRow(x, 1, 1, 9);
        due("none", x.forged(), 0);
        due("the row stays", x.count(6), 3);
        x.row(9);
        due("too long", x.forged(), -3);
        NeighboursMark alone = of("ps11;");
        tellRow(alone, 77);
        due("one alone", alone.forged(), 1);
        due("nobody", new NeighboursMark().forged(), 0);
    }

    private static void promise30() {
        d.part("promise 30");
        NeighboursMark x = of("h1;ps91;ps51;ps21;");
        due("nothing told", x.judge(), 0);
        tellRow(x, 5, 2, 9);
        due("as told", x.judge(), -9);
        due("the row is no more", x.count(6), 0);
        tellRow(x, 5, 3, 8);
        due("the first", x.judge(), 1);
        tellRow(x, 5, 2);
        due("too short", x.judge(), 2);
        tellRow(x, 5, 2, 9, 5);
        due("too long", x.judge(), 3);
        tellRow(x, 5, 2, 8, 5);
        due("too long and wrong", x.judge(), 2);
        tellRow(x, 4);
        due("too short and wrong", x.judge(), 0);
        due("nobody", new NeighboursMark().judge(), -9);
        NeighboursMark none = new NeighboursMark();
        none.row(1);
        due("too long for nobody", none.judge(), 0);
        due("count(6)", none.count(6), 0);
    }

    private static void promise31() {
        d.part("promise 31");
        NeighboursMark x = of("w;h1;po91;po11;po11;m9;");
        // Who has 0 to the left passes: one in each week in which 0 does not sit first.
        int z = 12345;
        int[] seats = {0, 1, 2};
        int want = 0;
        for (int n = 1; n <= 20; n++) {
            int[] draws = new int[2];
            for (int k = 0; k < 2; k++) {
                z = z * 1664525 + 1013904223;
                draws[k] = (z & 0x7fffffff) / 256 % 3;
            }
            for (int i = 0; i < 3; i++) {
                seats[i] = seats[i] == draws[0] ? draws[1] : seats[i] == draws[1] ? draws[0] : seats[i];
            }
            want += seats[0] == 0 ? 0 : 1;
            due("seeds(" + n + ", 12345)", x.seeds(n, 12345), want);
        }
        seats("only in mind", x, 0, 1, 2);
        due("week", x.count(2), 0);
        due("seeds(0, 1)", x.seeds(0, 1), -4);
        due("seeds(21, 1)", x.seeds(21, 1), -6);
        NeighboursMark none = new NeighboursMark();
        due("nobody", none.seeds(1, 1), -3);
        due("nobody, below", none.seeds(0, 1), -4);
        due("nobody, above", none.seeds(21, 1), -6);
        due("all pass", of("ps11;ps11;m0;").seeds(20, -1), 40);
    }

    private static void promise32() {
        d.part("promise 32");
        NeighboursMark x = of("ps52;");
        due("image", x.image(), 0);
        x.week();
        due("image", x.image(), 1);
        x.week();
        due("the newer one", x.on(), 1);
    }

    private static void promise33() {
        d.part("promise 33");
        NeighboursMark x = of("h3;ps52;pl37;po44;l4;m7;w;x02;");
        due("there is none", x.on(), -3);
        x.sick(1, 1);
        x.learn(2, 1);
        x.week();
        x.row(4);
        x.row(5);
        x.letter('h');
        x.image();
        Due.tell(x, "2;pb11;l0;m50;r;x01;");
        x.sick(1, 0);
        x.week();
        x.judge();
        x.law(9);
        due("on", x.on(), 1);
        int[] want = {3, 3, 1, 4, 7, 0, 2, 1};
        for (int what = 0; what < want.length; what++) {
            due("count(" + what + ")", x.count(what), want[what]);
        }
        seats("on", x, 2, 1, 0);
        learns("on", x, 3, 0, 1);
        due("sick", x.pupil(1, 3), 1);
        due("the letters go on", Due.tell(x, "2;"), 1);
        due("h2", x.count(1), 2);
        x.on();
        x.judge();
        x.row(99);
        x.row(99);
        x.on();
        // KNOWS 0: 15, 1: 0 (SICK), 2: 4; HALVES in the ROW 2 1 0: 7, 7, 2.
        marks("on", x, 7, 7, 2);
        due("the row told then", x.judge(), 0);
        x.judge();
        x.row(7);
        x.row(7);
        x.image();
        x.judge();
        x.row(99);
        x.on();
        due("the row told then", x.judge(), 2);
        due("refusals are not of the image", x.count(12), 1);
        due("-3", x.count(13), 1);
        due("on twice", x.on(), 1);
        due("hours", x.count(1), 3);
    }

    private static void promise34() {
        d.part("promise 34");
        NeighboursMark x = of("h3;w;l4;m33;ps11;ps11;");
        x.week();
        x.row(1);
        x.letter('r');
        x.letter(';');
        x.letter('h');
        int[] want = {2, 3, 1, 4, 33, 0, 1, 3};
        for (int what = 0; what < want.length; what++) {
            due("count(" + what + ")", x.count(what), want[what]);
        }
        x.mark(9);
        x.law(9);
        x.law(9);
        x.on();
        x.on();
        x.on();
        for (int k = 0; k < 4; k++) {
            x.pass(-1);
        }
        for (int k = 0; k < 5; k++) {
            x.pass(100);
        }
        int[] refusals = {1, 2, 3, 4, 0, 5};
        for (int k = 0; k < refusals.length; k++) {
            due("count(" + (11 + k) + ")", x.count(11 + k), refusals[k]);
        }
        for (int what : new int[] {-1, 8, 9, 10, 17, Integer.MIN_VALUE, Integer.MAX_VALUE}) {
            due("count(" + what + ")", x.count(what), -9);
        }
        due("-9 is no refusal", x.count(11), 1);
    }

    private static void refusedCallsChangeNothing() {
        d.part("refusals");
        NeighboursMark x = of("h3;w;l4;m33;pt11;pb52;x01;");
        x.row(1);
        x.letter('r');
        x.image();
        long before = print(x);
        int[] answers = {
            x.letter(-1), x.letter(256), x.pupil(2, 0), x.pupil(0, 9), x.sick(2, 0), x.sick(0, 2), x.learn(2, 0),
            x.learn(0, -1), x.learn(0, 4), x.swap(0, 0), x.law(7), x.pass(-1), x.pass(100), x.knows(2), x.mark(2),
            x.after(2, 0), x.after(0, -1), x.after(0, 41), x.best(2), x.bestSeat(-1), x.rests(2), x.rest(2), x.byLaw(7),
            x.hour(2, 0), x.hour(0, 2), x.mends(4), x.row(-1), x.row(100), x.fitting(-2), x.fitting(-1), x.forged(),
            x.seeds(0, 0), x.seeds(21, 0)};
        int[] want = {
            -4, -6, -1, -2, -1, -2, -1,
            -4, -6, -1, -2, -4, -6, -1, -1,
            -1, -4, -6, -2, -4, -2, -1, -2,
            -1, -2, -1, -4, -6, -4, -3, -3,
            -4, -6};
        int[] refusals = new int[7];
        for (int k = 0; k < want.length; k++) {
            due("refusal " + k, answers[k], want[k]);
            refusals[-want[k]]++;
        }
        due("all is as before", print(x), before);
        for (int k = 1; k <= 6; k++) {
            due("count(" + (10 + k) + ")", x.count(10 + k), refusals[k]);
        }
    }

    private static long print(NeighboursMark x) {
        long sum = 0;
        for (int what = 0; what <= 7; what++) {
            sum = sum * 31 + x.count(what);
        }
        for (int p = 0; p < x.count(0); p++) {
            for (int what = 0; what <= 7; what++) {
                sum = sum * 31 + x.pupil(p, what);
            }
        }
        return sum;
    }
}
