import java.io.IOException;

/** Each sentence of the promises 1 to 39, with a test of the boundaries that it names. */
public final class BoundariesOfPromises extends Sentences {
    private static final int MIN = Integer.MIN_VALUE;
    private static final int MAX = Integer.MAX_VALUE;

    private static void made() {
        sentence("1", "No COLUMNS.", () -> {
            HillSchool x = new HillSchool();
            int[] first = {0, 0, 0, 0, 0, 0, 0, 0, 0, 0, 0, NONE, 0, 1, 3, 1};
            for (int what = 0; what < first.length; what++) {
                due("count(" + what + ")", x.count(what), first[what]);
            }
            same("unkept", unkept(x), "0 -1 0" + times("|-1 -1", 12));
            due("of(0, NONE)", x.of(0, NONE), NONE);
            due("weight(0)", x.weight(0), NONE);
            due("layers(0)", x.layers(0), NONE);
            due("steep()", x.steep(), NONE);
            due("slide()", x.slide(), 0);
            due("shade(NONE)", x.shade(NONE), 0);
            due("plan(0, NONE, 0)", x.plan(0, NONE, 0), 0);
            due("plan(0, 0, 0)", x.plan(0, 0, 0), NONE);
            due("duel(1, 0, 0)", x.duel(1, 0, 0), 0);
            due("weighs(0)", x.weighs(0), 1);
            due("culprits(1, 0, 0)", x.culprits(1, 0, 0), 1);
            due("status()", x.status(), 0);
        });
        sentence("2", "A COLUMN to the right: its number.", () -> {
            HillSchool x = high(4);
            due("column()", x.column(), 1);
            due("beside the one to the left", x.steep(), 0);
            due("of(1, NONE)", x.of(1, NONE), 0);
            due("a goal", x.goal(1, 5), NONE);
            due("status", x.status(), 0);
        });
        sentence("2", "-5.", () -> {
            HillSchool x = new HillSchool();
            for (int column = 0; column < 12; column++) {
                due("column()", x.column(), column);
            }
            refused(x, "the 13th", 0, x.column(), -5);
            refused(x, "once more", 1, x.column(), -5);
        });
        sentence("3", "A STONE comes on top of a COLUMN: how many it has.", () -> {
            HillSchool x = hill(w(), w());
            due("the first", x.stone(1, 4), 1);
            due("the second", x.stone(1, 9), 2);
            stones(x, 0);
            stones(x, 1, 4, 9);
        });
        sentence("3", "-1;", () -> {
            HillSchool x = hill(w());
            int[] wrong = {0, -1, 31, 256 + 5, MIN, MAX};
            for (int k = 0; k < wrong.length; k++) {
                refused(x, "stone(0, " + wrong[k] + ")", k, x.stone(0, wrong[k]), -1);
            }
            stones(x, 0);
        });
        sentence("3", "-2;", () -> {
            HillSchool x = hill(w());
            refused(x, "1", 0, x.stone(1, 5), -2);
            refused(x, "-1", 1, x.stone(-1, 5), -2);
            refused(x, "min", 2, x.stone(MIN, 5), -2);
            refused(x, "max", 3, x.stone(MAX, 5), -2);
            refused(x, "-1 goes ahead", 4, x.stone(1, 0), -1);
        });
        sentence("3", "-5.", () -> {
            HillSchool x = high(9);
            due("the 10th", x.stone(0, 2), 10);
            refused(x, "the 11th", 0, x.stone(0, 3), -5);
            refused(x, "-1 goes ahead", 1, x.stone(0, 31), -1);
            due("the top stays", x.of(0, 9), 2);
        });
        sentence("4", "The top STONE of a COLUMN is taken away: its WEIGHT.", () -> {
            HillSchool x = hill(w(1, 30), w(2));
            due("the top", x.lift(0), 30);
            stones(x, 0, 1);
            stones(x, 1, 2);
            due("the last", x.lift(0), 1);
            stones(x, 0);
        });
        sentence("4", "-2;", () -> {
            HillSchool x = hill(w(1));
            refused(x, "1", 0, x.lift(1), -2);
            refused(x, "-1", 1, x.lift(-1), -2);
            refused(x, "min", 2, x.lift(MIN), -2);
            refused(x, "max", 3, x.lift(MAX), -2);
        });
        sentence("4", "-3 it has none.", () -> {
            HillSchool x = hill(w(1), w());
            refused(x, "never one", 0, x.lift(1), -3);
            x.lift(0);
            refused(x, "none left", 1, x.lift(0), -3);
            due("count(1)", x.count(1), 0);
        });
        sentence("5", "Of a COLUMN how many STONES (i NONE), the WEIGHT of the i-th from the ground.", () -> {
            HillSchool x = hill(w(4, 9, 30), w(), w(1, 2, 3, 4, 5, 6, 7, 8, 9, 10));
            stones(x, 0, 4, 9, 30);
            stones(x, 1);
            stones(x, 2, 1, 2, 3, 4, 5, 6, 7, 8, 9, 10);
        });
        sentence("5", "NONE.", () -> {
            HillSchool x = hill(w(4, 9), w(5), w());
            due("the next of 2", x.of(0, 2), NONE);
            due("of(0, -2)", x.of(0, -2), NONE);
            due("of(0, 10)", x.of(0, 10), NONE);
            due("of(0, min)", x.of(0, MIN), NONE);
            due("of(0, max)", x.of(0, MAX), NONE);
            due("of none", x.of(2, 0), NONE);
            due("of(3, NONE)", x.of(3, NONE), NONE);
            due("of(-1, NONE)", x.of(-1, NONE), NONE);
            due("of(max, 0)", x.of(MAX, 0), NONE);
            due("of(min, 0)", x.of(MIN, 0), NONE);
            x.lift(0);
            due("one taken away", x.of(0, 1), NONE);
            due("no refusal", refusals(x), 0);
        });
        sentence("6", "WEIGHTS of a COLUMN together.", () -> {
            HillSchool x = hill(w(), w(7), w(30, 30, 30, 30, 30, 30, 30, 30, 30, 30));
            due("of none", x.weight(0), 0);
            due("of one", x.weight(1), 7);
            due("of ten", x.weight(2), 300);
            x.lift(2);
            due("of nine", x.weight(2), 270);
        });
        sentence("6", "NONE.", () -> {
            HillSchool x = hill(w(3));
            due("1", x.weight(1), NONE);
            due("-1", x.weight(-1), NONE);
            due("12", x.weight(12), NONE);
            due("max", x.weight(MAX), NONE);
            due("min", x.weight(MIN), NONE);
        });
    }

    private static void people() {
        sentence("7", "A CHILD: the number.", () -> {
            HillSchool x = new HillSchool();
            due("the first", x.child(1), 0);
            due("the second", x.child(60), 1);
            due("fact", x.fact(1, 0), 60);
        });
        sentence("7", "-1;", () -> {
            HillSchool x = new HillSchool();
            int[] wrong = {0, -1, 61, MIN, MAX};
            for (int k = 0; k < wrong.length; k++) {
                refused(x, "child(" + wrong[k] + ")", k, x.child(wrong[k]), -1);
            }
            due("count(2)", x.count(2), 0);
        });
        sentence("7", "-5.", () -> {
            HillSchool x = new HillSchool();
            for (int child = 0; child < 6; child++) {
                due("child", x.child(9), child);
            }
            refused(x, "the 7th", 0, x.child(9), -5);
            refused(x, "-1 goes ahead", 1, x.child(0), -1);
            due("count(2)", x.count(2), 6);
        });
        sentence("8", "A CHILD is EXPELLED (1), is not (0): what was.", () -> {
            HillSchool x = new HillSchool();
            x.child(9);
            int[] is = {0, 1, 1, 0, 0};
            int[] was = {0, 0, 1, 1, 0};
            for (int k = 0; k < is.length; k++) {
                due("call " + k, x.expel(0, is[k]), was[k]);
                due("fact", x.fact(0, 1), is[k]);
            }
        });
        sentence("8", "-1;", () -> {
            HillSchool x = new HillSchool();
            x.child(9);
            int[] wrong = {2, -1, MIN, MAX};
            for (int k = 0; k < wrong.length; k++) {
                refused(x, "expel(0, " + wrong[k] + ")", k, x.expel(0, wrong[k]), -1);
            }
        });
        sentence("8", "-2.", () -> {
            HillSchool x = new HillSchool();
            refused(x, "no child at all", 0, x.expel(0, 1), -2);
            x.child(9);
            refused(x, "1", 1, x.expel(1, 1), -2);
            refused(x, "-1", 2, x.expel(-1, 0), -2);
            refused(x, "-1 goes ahead", 3, x.expel(1, 2), -1);
        });
        sentence("9", "STRENGTH (what 0), whether EXPELLED (1), TRIPS (2) of a CHILD.", () -> {
            HillSchool x = new HillSchool();
            x.child(60);
            x.child(1);
            x.expel(1, 1);
            x.trips(0, 20);
            int[][] want = {{60, 0, 20}, {1, 1, 0}};
            for (int child = 0; child < 2; child++) {
                for (int what = 0; what < 3; what++) {
                    due("fact(" + child + ", " + what + ")", x.fact(child, what), want[child][what]);
                }
            }
        });
        sentence("9", "NONE.", () -> {
            HillSchool x = new HillSchool();
            due("no child at all", x.fact(0, 0), NONE);
            x.child(9);
            due("fact(0, 3)", x.fact(0, 3), NONE);
            due("fact(0, -1)", x.fact(0, -1), NONE);
            due("fact(0, max)", x.fact(0, MAX), NONE);
            due("fact(1, 0)", x.fact(1, 0), NONE);
            due("fact(-1, 1)", x.fact(-1, 1), NONE);
            due("fact(min, 2)", x.fact(MIN, 2), NONE);
        });
        sentence("10", "A PARISH at a COLUMN: its number.", () -> {
            HillSchool x = high(2, 0);
            due("the first", x.parish(1), 0);
            due("at the same", x.parish(1), 1);
            due("at another", x.parish(0), 2);
            due("shade(1)", x.shade(1), 1);
            due("shade(2)", x.shade(2), 2);
        });
        sentence("10", "-2;", () -> {
            HillSchool x = new HillSchool();
            refused(x, "no column at all", 0, x.parish(0), -2);
            x.column();
            refused(x, "1", 1, x.parish(1), -2);
            refused(x, "-1", 2, x.parish(-1), -2);
            refused(x, "max", 3, x.parish(MAX), -2);
        });
        sentence("10", "-5.", () -> {
            HillSchool x = high(0);
            for (int parish = 0; parish < 6; parish++) {
                due("parish", x.parish(0), parish);
            }
            refused(x, "the 7th", 0, x.parish(0), -5);
            refused(x, "-2 goes ahead", 1, x.parish(1), -2);
        });
        sentence("11", "A TERM: what it was.", () -> {
            HillSchool x = new HillSchool();
            int[] first = {0, 1, 3, 1};
            for (int what = 0; what < 4; what++) {
                due("first", x.terms(what, 9), first[what]);
                due("the same", x.terms(what, 9), 9);
                due("another", x.terms(what, 1), 9);
                due("status", x.status(), 0);
            }
        });
        sentence("11", "-1.", () -> {
            HillSchool x = new HillSchool();
            int[][] wrong = {{0, -1}, {0, 100}, {1, 0}, {1, 10}, {2, 0}, {2, 10}, {3, -1}, {3, 31}, {4, 1}, {-1, 1}, {MAX, MAX}, {MIN, MIN}};
            for (int k = 0; k < wrong.length; k++) {
                refused(x, "terms(" + wrong[k][0] + ", " + wrong[k][1] + ")", k, x.terms(wrong[k][0], wrong[k][1]), -1);
            }
            for (int what = 0; what < 4; what++) {
                due("stays", x.count(12 + what), what == 2 ? 3 : what % 2);
            }
        });
    }

    private static void tape() {
        sentence("12", "Twenty bytes come behind the TAPE, four of each number, the highest first: how many it has.", () -> {
            HillSchool x = hill(w(), w());
            due("feed", x.feed(0x00010203, 0x04050607, 0x08090a0b, 0x0c0d0e0f, 0x10111213), 20);
            x.end(11);
            x.row();
            stones(x, 0, 1, 2, 3, 4, 5, 6, 7, 8, 9, 10);
            x.feed(0x01020304, 0, 0, 0, 0);
            x.end(3);
            due("behind 3", x.feed(0x05060708, 0x090a0b0c, 0x0d0e0f10, -1, MIN), 23);
            x.end(11);
            due("row", x.row(), 10);
            stones(x, 1, 2, 3, 5, 6, 7, 8, 9, 10, 11, 12);
        });
        sentence("12", "NONE, if there would be more than 400.", () -> {
            HillSchool x = hill(w());
            for (int n = 1; n <= 20; n++) {
                due("feed", x.feed(-1, -1, -1, -1, -1), 20 * n);
            }
            due("420", x.feed(0, 0, 0, 0, 0), NONE);
            due("stays", x.count(5), 400);
            x.end(381);
            due("401", x.feed(0, 0, 0, 0, 0), NONE);
            due("stays", x.count(5), 381);
            x.end(380);
            due("400", x.feed(0, 0, 0, 0, 0), 400);
            due("no refusal", refusals(x), 0);
        });
        sentence("13", "The TAPE has its first n bytes alone: n.", () -> {
            HillSchool x = hill(w());
            due("0 of 0", x.end(0), 0);
            write(x, 0, 5, 6, 7);
            due("all", x.end(4), 4);
            due("3", x.end(3), 3);
            due("count(5)", x.count(5), 3);
            due("row", x.row(), 2);
            stones(x, 0, 5, 6);
            write(x, 0, 5);
            due("0", x.end(0), 0);
            due("row", x.row(), -6);
        });
        sentence("13", "NONE, if it has not so many, or n is below 0.", () -> {
            HillSchool x = hill(w());
            due("1 of 0", x.end(1), NONE);
            write(x, 0, 5, 6, 7);
            due("5 of 4", x.end(5), NONE);
            due("max", x.end(MAX), NONE);
            due("-1", x.end(-1), NONE);
            due("min", x.end(MIN), NONE);
            due("stays", x.count(5), 4);
            x.end(3);
            due("what was cut is gone", x.end(4), NONE);
            due("no refusal", refusals(x), 0);
        });
        sentence("14", "A ROW, the TAPE is empty then: how many STONES came.", () -> {
            HillSchool x = hill(w(), w(8));
            write(x, 1, 5, 0, 30, 31, 255);
            due("2 of 5", x.row(), 2);
            due("count(5)", x.count(5), 0);
            stones(x, 1, 8, 5, 30);
            write(x, 1);
            due("none of none", x.row(), 0);
            due("status", x.status(), 0);
            due("count(5)", x.count(5), 0);
            write(x, 1, 1, 1, 1, 1, 1, 1, 2, 3, 4, 5);
            due("7 of 10", x.row(), 7);
            due("the last that came", x.of(1, 9), 2);
            write(x, 1, 1);
            due("none of one", x.row(), 0);
            due("status", x.status(), 0);
        });
        sentence("14", "-6 the TAPE is empty", () -> {
            HillSchool x = hill(w());
            refused(x, "row()", 0, x.row(), -6);
            write(x, 0, 1);
            x.row();
            refused(x, "once more", 1, x.row(), -6);
            stones(x, 0, 1);
        });
        sentence("14", ", no such COLUMN.", () -> {
            HillSchool x = new HillSchool();
            write(x, 0, 5);
            refused(x, "0 of none", 0, x.row(), -6);
            x.column();
            write(x, 1, 5);
            refused(x, "1 of 1", 1, x.row(), -6);
            due("the tape is empty then", x.count(5), 0);
            write(x, 255, 5);
            refused(x, "255", 2, x.row(), -6);
            write(x, 128, 5);
            refused(x, "128", 3, x.row(), -6);
            due("count(1)", x.count(1), 0);
        });
        sentence("15", "How much GRAVEL the latest row() had that was not REFUSED", () -> {
            HillSchool x = hill(w(), w(8));
            write(x, 1, 5, 0, 30, 31, 255);
            x.row();
            due("what can't be", x.gravel(), 3);
            due("asked again", x.gravel(), 3);
            x.row();
            due("behind a refused one, empty", x.gravel(), 3);
            write(x, 2, 0);
            x.row();
            due("behind a refused one, no column", x.gravel(), 3);
            write(x, 1, 1, 1, 1, 1, 1, 1, 1, 2, 0);
            x.row();
            due("no room for one, one that can't be", x.gravel(), 2);
            write(x, 0, 1);
            x.row();
            due("none", x.gravel(), 0);
        });
        sentence("15", "(0 ahead of any).", () -> {
            HillSchool x = hill(w());
            due("at first", x.gravel(), 0);
            x.row();
            due("ahead of any that was not refused", x.gravel(), 0);
        });
    }

    private static void laws() {
        sentence("16", "The TAPE, which is empty then, becomes a LAW: its number.", () -> {
            HillSchool x = hill(w(1), w());
            x.child(1);
            due("the first", law(x, "tires 7"), 0);
            due("count(5)", x.count(5), 0);
            due("the second", law(x, "tires 8"), 1);
            due("count(4)", x.count(4), 2);
            x.force(1);
            due("tires", x.tires(0, 0, 1), 8);
            law(x, "x");
            due("count(5)", x.count(5), 0);
        });
        sentence("16", "-5 (ahead of reading it; the TAPE is empty then, too)", () -> {
            HillSchool x = new HillSchool();
            law(x, "tires x");
            for (int law = 0; law < 6; law++) {
                due("law", law(x, "bars"), law);
            }
            refused(x, "a good one", 1, law(x, "bars"), -5);
            due("count(5)", x.count(5), 0);
            refused(x, "one that can't be", 2, law(x, "tires x"), -5);
            due("count(5)", x.count(5), 0);
            due("it was not read", x.fault(), NONE);
            refused(x, "empty", 3, x.law(), -5);
            due("count(9)", x.count(9), 3);
            due("count(10)", x.count(10), 1);
        });
        sentence("16", "; -6 (blanks alone: FAULT at the end).", () -> {
            faulty("", 0);
            faulty(" ", 1);
            faulty(times(" ", 399), 399);
            faulty(times(" ", 400), 400);
            faulty(" x", 1);
            HillSchool x = new HillSchool();
            x.law();
            due("count(10)", x.count(10), 1);
        });
        sentence("17", "FAULT of the latest law() that read a TEXT: its place", () -> {
            HillSchool x = new HillSchool();
            law(x, "tires x");
            due("fault", x.fault(), 6);
            due("asked again", x.fault(), 6);
            law(x, "x");
            due("the latest", x.fault(), 0);
            x.law();
            due("an empty text was read, too", x.fault(), 0);
            law(x, "bars x");
            for (int law = 0; law < 5; law++) {
                law(x, "bars");
            }
            law(x, "bars if");
            due("of the 6th", x.fault(), 7);
            x.image(0);
            law(x, "bars");
            due("law", law(x, "bars if x"), -5);
            due("one without room was not read", x.fault(), NONE);
            x.back(0);
            law(x, "bars if x");
            due("now it was", x.fault(), 8);
        });
        sentence("17", "; NONE without.", () -> {
            HillSchool x = new HillSchool();
            due("ahead of any", x.fault(), NONE);
            law(x, "x");
            law(x, "bars");
            due("a good one", x.fault(), NONE);
        });
        sentence("18", "A LAW is in FORCE (NONE: none): which was.", () -> {
            HillSchool x = hill(w(1), w());
            x.child(1);
            law(x, "tires 5");
            law(x, "bars");
            int[] to = {0, 1, 1, NONE, NONE, 1, 0};
            int[] was = {NONE, 0, 1, 1, NONE, NONE, 1};
            int[] tires = {5, NONE, NONE, 1, 1, NONE, 5};
            for (int k = 0; k < to.length; k++) {
                due("force(" + to[k] + ")", x.force(to[k]), was[k]);
                due("status", x.status(), 0);
                due("count(11)", x.count(11), to[k]);
                due("tires", x.tires(0, 0, 1), tires[k]);
            }
        });
        sentence("18", "-2.", () -> {
            HillSchool x = new HillSchool();
            refused(x, "0 of none", 0, x.force(0), -2);
            law(x, "bars");
            refused(x, "1 of 1", 1, x.force(1), -2);
            refused(x, "-2", 2, x.force(-2), -2);
            refused(x, "6", 3, x.force(6), -2);
            refused(x, "min", 4, x.force(MIN), -2);
            refused(x, "max", 5, x.force(MAX), -2);
            due("count(11)", x.count(11), NONE);
        });
    }

    private static void carryings() {
        sentence("19", "Whether a CARRYING CAN be: 1, 0.", () -> {
            HillSchool x = hill(w(3, 8), w(), w(1, 1, 1, 1, 1, 1, 1, 1, 1, 1));
            x.child(8);
            x.child(7);
            due("as strong as heavy", x.can(0, 0, 1), 1);
            due("too weak", x.can(1, 0, 1), 0);
            due("no stone", x.can(0, 1, 0), 0);
            due("to 10", x.can(0, 0, 2), 0);
            due("from 10", x.can(1, 2, 1), 1);
            due("the same one", x.can(0, 0, 0), 0);
            x.expel(0, 1);
            due("expelled", x.can(0, 0, 1), 0);
            inForce(x, "bars if low=0");
            due("barred", x.can(1, 2, 1), 0);
            due("nothing was carried", x.count(1), 12);
        });
        sentence("19", "NONE (no such CHILD, COLUMN).", () -> {
            HillSchool x = hill(w(3), w());
            due("no child at all", x.can(0, 0, 1), NONE);
            x.child(8);
            int[][] wrong = {{1, 0, 1}, {-1, 0, 1}, {0, 2, 1}, {0, -1, 1}, {0, 0, 2}, {0, 0, -1}, {MIN, MIN, MIN}, {MAX, MAX, MAX},
                {1, 0, 0}, {0, 2, 2}};
            for (int[] one : wrong) {
                due("can(" + one[0] + ", " + one[1] + ", " + one[2] + ")", x.can(one[0], one[1], one[2]), NONE);
            }
            due("no refusal", refusals(x), 0);
        });
        sentence("20", "How a CARRYING TIRES.", () -> {
            HillSchool x = hill(w(3), w(), w(), w(5));
            x.child(5);
            due("1 apart", x.tires(0, 0, 1), 1);
            due("3 apart", x.tires(0, 0, 3), 3);
            due("3 apart, to the left", x.tires(0, 3, 0), 3);
            inForce(x, "tires low*90+high*9");
            due("low 1", x.tires(0, 0, 3), 99);
            due("low 0", x.tires(0, 0, 1), 9);
        });
        sentence("20", "NONE (it CAN not be, too).", () -> {
            HillSchool x = hill(w(3), w(), w(5));
            x.child(4);
            due("too weak", x.tires(0, 2, 0), NONE);
            due("no stone", x.tires(0, 1, 0), NONE);
            due("the same one", x.tires(0, 0, 0), NONE);
            due("no child", x.tires(1, 0, 1), NONE);
            due("no child", x.tires(-1, 0, 1), NONE);
            due("no column", x.tires(0, 3, 1), NONE);
            due("no column", x.tires(0, 0, -1), NONE);
            inForce(x, "bars; tires 5");
            due("barred", x.tires(0, 0, 1), NONE);
            due("no refusal", refusals(x), 0);
        });
        sentence("21", "A CARRYING: the WEIGHT.", () -> {
            HillSchool x = hill(w(3, 6), w(9));
            x.child(6);
            due("6", x.carry(0, 0, 1), 6);
            due("3", x.carry(0, 0, 1), 3);
            stones(x, 0);
            stones(x, 1, 9, 6, 3);
            HillSchool slides = high(4, 0, 1);
            slides.child(1);
            slides.carry(0, 2, 0);
            heights(slides, 5, 0, 0);
        });
        sentence("21", "-2;", () -> {
            HillSchool x = hill(w(3), w());
            x.child(6);
            int[][] wrong = {{1, 0, 1}, {-1, 0, 1}, {0, 2, 1}, {0, -1, 1}, {0, 0, 2}, {0, 0, -1}, {MAX, MAX, MAX}, {0, 2, 2}};
            for (int k = 0; k < wrong.length; k++) {
                refused(x, "wrong " + k, k, x.carry(wrong[k][0], wrong[k][1], wrong[k][2]), -2);
            }
            heights(x, 1, 0);
        });
        sentence("21", "-3 it CAN not be.", () -> {
            HillSchool x = hill(w(3), w(), w(7), w(1, 1, 1, 1, 1, 1, 1, 1, 1, 1));
            x.child(6);
            x.child(6);
            x.expel(1, 1);
            refused(x, "no stone", 0, x.carry(0, 1, 0), -3);
            refused(x, "the same one", 1, x.carry(0, 0, 0), -3);
            refused(x, "to 10", 2, x.carry(0, 0, 3), -3);
            refused(x, "too weak", 3, x.carry(0, 2, 0), -3);
            refused(x, "expelled", 4, x.carry(1, 0, 1), -3);
            inForce(x, "bars if to=1");
            refused(x, "barred", 5, x.carry(0, 0, 1), -3);
            heights(x, 1, 0, 1, 10);
        });
        sentence("22", "An EXCHANGE: how unlike both are.", () -> {
            HillSchool x = hill(w(30), w(), w(1));
            x.child(60);
            due("down is lighter", x.exchange(0, 0, 1, 2), 29);
            stones(x, 0, 1);
            stones(x, 1, 30);
            stones(x, 2);
            due("down is heavier", x.exchange(0, 0, 2, 1), 29);
            stones(x, 0, 30);
            x.terms(3, 0);
            due("the same stone", x.exchange(0, 0, 1, 1), 0);
            stones(x, 0, 30);
        });
        sentence("22", "-2;", () -> {
            HillSchool x = hill(w(3), w(), w(5));
            x.child(6);
            int[][] wrong = {{1, 0, 1, 2}, {-1, 0, 1, 2}, {0, 3, 1, 2}, {0, -1, 1, 2}, {0, 0, 3, 2}, {0, 0, -1, 2}, {0, 0, 1, 3},
                {0, 0, 1, -1}, {0, 1, 1, 3}, {MIN, MIN, MIN, MIN}};
            for (int k = 0; k < wrong.length; k++) {
                refused(x, "wrong " + k, k, x.exchange(wrong[k][0], wrong[k][1], wrong[k][2], wrong[k][3]), -2);
            }
            heights(x, 1, 0, 1);
        });
        sentence("22", "-3 it can't be (all stays).", () -> {
            HillSchool x = hill(w(1, 4), w(2, 2), w(9), w());
            x.child(9);
            x.child(8);
            String before = kept(x);
            refused(x, "a has none", 0, x.exchange(0, 3, 1, 2), -3);
            refused(x, "c has none", 1, x.exchange(0, 0, 1, 3), -3);
            refused(x, "a is b", 2, x.exchange(0, 0, 0, 1), -3);
            refused(x, "a is c", 3, x.exchange(0, 0, 1, 0), -3);
            refused(x, "all are one", 4, x.exchange(0, 0, 0, 0), -3);
            refused(x, "too heavy down", 5, x.exchange(1, 0, 1, 2), -3);
            refused(x, "b is c: not unlike", 6, x.exchange(0, 0, 1, 1), -3);
            x.terms(3, 6);
            refused(x, "5 of 6", 7, x.exchange(0, 0, 1, 2), -3);
            x.terms(3, 1);
            same("what stands", kept(x), before);
            stones(x, 0, 1, 4);
            stones(x, 1, 2, 2);
            due("count(8)", x.count(8), 8);
        });
    }

    private static void slides() {
        sentence("23", "The lowest COLUMN that slides next.", () -> {
            due("the first", high(4, 0, 0).steep(), 0);
            due("the last", high(0, 0, 4).steep(), 2);
            due("of two", high(0, 4, 0, 5).steep(), 1);
            HillSchool x = high(4, 0, 5);
            due("steep()", x.steep(), 0);
            due("all stays", x.of(0, NONE), 4);
        });
        sentence("23", "NONE.", () -> {
            due("no columns", new HillSchool().steep(), NONE);
            due("alone", high(10).steep(), NONE);
            due("as many more as can be", high(3, 0, 3).steep(), NONE);
            HillSchool x = high(9, 0);
            x.terms(2, 9);
            due("9 of 9", x.steep(), NONE);
            x.stone(0, 1);
            due("10 of 9", x.steep(), 0);
        });
        sentence("24", "SLIDES: how many.", () -> {
            due("no columns", new HillSchool().slide(), 0);
            due("none", high(3, 0).slide(), 0);
            HillSchool x = high(0, 5, 0);
            due("two", x.slide(), 2);
            heights(x, 1, 3, 1);
            due("then none", x.slide(), 0);
            HillSchool most = high(10, 10, 10, 10, 10, 10, 0, 0, 0, 0, 0, 0);
            most.terms(2, 1);
            // Stones times columns are 150 ahead of it, 205 behind it, and each slide is one to the right.
            due("far", most.slide(), 55);
            heights(most, 10, 9, 8, 7, 6, 5, 5, 4, 3, 2, 1, 0);
            HillSchool status = high(4, 0);
            status.lift(9);
            status.slide();
            due("status stays", status.status(), -2);
        });
    }

    private static void shades() {
        sentence("25", "SHADE at a PARISH (NONE: of all PARISHES together).", () -> {
            HillSchool x = high(5, 0, 0, 3);
            due("none of them", x.shade(NONE), 0);
            x.parish(0);
            x.parish(2);
            x.parish(3);
            x.parish(3);
            int[] want = {5, 3, 3, 3};
            for (int parish = 0; parish < 4; parish++) {
                due("shade(" + parish + ")", x.shade(parish), want[parish]);
            }
            due("together", x.shade(NONE), 14);
        });
        sentence("25", "NONE (no such PARISH).", () -> {
            HillSchool x = high(5);
            due("no parish at all", x.shade(0), NONE);
            x.parish(0);
            due("1", x.shade(1), NONE);
            due("-2", x.shade(-2), NONE);
            due("6", x.shade(6), NONE);
            due("max", x.shade(MAX), NONE);
            due("min", x.shade(MIN), NONE);
        });
        sentence("26", "What a PARISH GAINS by a CARRYING that CAN be.", () -> {
            HillSchool x = high(3, 0, 0, 1);
            x.child(1);
            x.parish(0);
            x.parish(3);
            due("gains", x.gains(0, 0, 0, 1), 1);
            due("loses", x.gains(1, 0, 0, 3), -1);
            due("neither", x.gains(0, 0, 3, 2), 0);
            heights(x, 3, 0, 0, 1);
            due("no refusal", refusals(x), 0);
        });
        sentence("26", "NOTHING.", () -> {
            HillSchool x = high(3, 0, 0);
            x.parish(0);
            due("no child at all", x.gains(0, 0, 0, 1), NOTHING);
            x.child(1);
            due("1", x.gains(1, 0, 0, 1), NOTHING);
            due("NONE", x.gains(NONE, 0, 0, 1), NOTHING);
            due("no child", x.gains(0, 1, 0, 1), NOTHING);
            due("no child", x.gains(0, -1, 0, 1), NOTHING);
            due("no column", x.gains(0, 0, 3, 1), NOTHING);
            due("no column", x.gains(0, 0, 0, -1), NOTHING);
            due("the same", x.gains(0, 0, 0, 0), NOTHING);
            due("no stone", x.gains(0, 0, 1, 0), NOTHING);
            inForce(x, "bars");
            due("barred", x.gains(0, 0, 0, 1), NOTHING);
            x.force(NONE);
            x.expel(0, 1);
            due("expelled", x.gains(0, 0, 0, 1), NOTHING);
            due("no refusal", refusals(x), 0);
        });
    }

    private static void plans() {
        sentence("27", "A GOAL of a COLUMN (NONE .. 10): what it was", () -> {
            HillSchool x = high(1, 0);
            int[] heights = {0, 10, NONE, NONE, 5};
            int[] was = {NONE, 0, 10, NONE, NONE};
            for (int k = 0; k < heights.length; k++) {
                due("goal(1, " + heights[k] + ")", x.goal(1, heights[k]), was[k]);
                due("status", x.status(), 0);
            }
            due("of the other", x.goal(0, 3), NONE);
            due("of this one", x.goal(1, 3), 5);
        });
        sentence("27", "(NOTHING if it is REFUSED). -1;", () -> {
            HillSchool x = high(1);
            x.goal(0, 4);
            int[] wrong = {-2, 11, MIN, MAX};
            for (int k = 0; k < wrong.length; k++) {
                due("goal(0, " + wrong[k] + ")", x.goal(0, wrong[k]), NOTHING);
                due("status", x.status(), -1);
                due("count(6)", x.count(6), k + 1);
            }
            due("stays", x.goal(0, NONE), 4);
        });
        sentence("27", "-2.", () -> {
            HillSchool x = high(1);
            int[] wrong = {1, -1, 12, MIN, MAX};
            for (int k = 0; k < wrong.length; k++) {
                due("goal(" + wrong[k] + ", 3)", x.goal(wrong[k], 3), NOTHING);
                due("status", x.status(), -2);
                due("count(7)", x.count(7), k + 1);
            }
            due("-1 goes ahead", x.goal(1, 11), NOTHING);
            due("status", x.status(), -1);
        });
        sentence("28", "Of CARRYINGS of a sort (0 FEWEST, 1 SAFE FEWEST, 2 LEAST TIRING): how many, or how tiring (i NONE).", () -> {
            HillSchool x = high(1, 3, 0);
            x.child(1);
            x.terms(2, 2);
            x.goal(0, 0);
            x.goal(2, 2);
            due("0", x.plan(0, NONE, 0), 2);
            due("1", x.plan(1, NONE, 0), 2);
            due("2", x.plan(2, NONE, 0), 3);
            due("3", x.plan(3, NONE, 0), NONE);
            due("-1", x.plan(-1, NONE, 0), NONE);
            due("max", x.plan(MAX, NONE, 0), NONE);
            inForce(x, "tires 40");
            due("fewest", x.plan(0, NONE, 0), 2);
            due("tiring", x.plan(2, NONE, 0), 80);
            x.goal(0, NONE);
            x.goal(2, NONE);
            due("none is due", x.plan(0, NONE, 0), 0);
            due("none is due", x.plan(1, NONE, 0), 0);
            due("none is due", x.plan(2, NONE, 0), 0);
            due("no refusal", refusals(x), 0);
        });
        sentence("28", "Of the i-th of the first row from (what 0), to (1), CHILD (2).", () -> {
            HillSchool x = high(1, 3, 0);
            x.child(1);
            x.terms(2, 2);
            x.goal(0, 0);
            x.goal(2, 2);
            row(x, 0, 2, 0, 2, 0, 1, 2, 0);
            row(x, 1, 2, 1, 2, 0, 0, 2, 0);
            row(x, 2, 3, 0, 2, 0, 1, 2, 0);
            for (int sort = 0; sort < 3; sort++) {
                due("i 2", x.plan(sort, 2, 0), NONE);
                due("i -2", x.plan(sort, -2, 0), NONE);
                due("i max", x.plan(sort, MAX, 0), NONE);
                due("i min", x.plan(sort, MIN, 0), NONE);
                due("what 3", x.plan(sort, 0, 3), NONE);
                due("what -1", x.plan(sort, 0, -1), NONE);
            }
            due("all stays", x.of(0, NONE), 1);
        });
        sentence("28", "NONE (not at all, not SMALL).", () -> {
            HillSchool x = high(5, 0, 0, 0);
            x.goal(0, 4);
            row(x, 0, NONE);
            x.child(1);
            row(x, 0, 1, 0, 1, 0);
            x.goal(1, 10);
            row(x, 0, NONE);
            row(x, 1, NONE);
            row(x, 2, NONE);
            x.goal(1, NONE);
            x.stone(3, 1);
            row(x, 0, NONE);
            x.lift(3);
            row(x, 0, 1, 0, 1, 0);
            x.column();
            row(x, 0, NONE);
            x.goal(0, NONE);
            row(x, 0, NONE);
        });
    }

    private static void weighed() {
        sentence("29", "WEIGHS: how many sets of STONES (1,000,000,000 at most).", () -> {
            HillSchool x = new HillSchool();
            for (int column = 0; column < 12; column++) {
                x.column();
            }
            for (int n = 0; n < 32; n++) {
                x.stone(n / 10, 1);
            }
            due("16 of 32", x.weighs(16), 601_080_390);
            x.stone(3, 1);
            due("16 of 33", x.weighs(16), 1_000_000_000);
            due("13 of 33", x.weighs(13), 573_166_440);
            for (int column = 0; column < 12; column++) {
                write(x, column, 1, 1, 1, 1, 1, 1, 1, 1, 1, 1);
                x.row();
            }
            due("60 of 120", x.weighs(60), 1_000_000_000);
            due("5 of 120", x.weighs(5), 190_578_024);
            due("6 of 120", x.weighs(6), 1_000_000_000);
            due("115 of 120", x.weighs(115), 190_578_024);
            due("0 of 120", x.weighs(0), 1);
            due("121 of 120", x.weighs(121), 0);
        });
        sentence("29", "NONE (weight 0 .. 3,600).", () -> {
            HillSchool x = new HillSchool();
            for (int column = 0; column < 12; column++) {
                x.column();
                write(x, column, 30, 30, 30, 30, 30, 30, 30, 30, 30, 30);
                x.row();
            }
            due("0", x.weighs(0), 1);
            due("-1", x.weighs(-1), NONE);
            due("3600", x.weighs(3600), 1);
            due("3599", x.weighs(3599), 0);
            due("3570", x.weighs(3570), 120);
            due("3601", x.weighs(3601), NONE);
            due("max", x.weighs(MAX), NONE);
            due("min", x.weighs(MIN), NONE);
        });
        sentence("30", "TRIPS of a CHILD: what they were.", () -> {
            HillSchool x = new HillSchool();
            x.child(3);
            x.child(3);
            due("at first", x.trips(1, 20), 0);
            due("20", x.trips(1, 0), 20);
            due("0", x.trips(1, 7), 0);
            due("of the other", x.fact(0, 2), 0);
            due("status", x.status(), 0);
        });
        sentence("30", "-1;", () -> {
            HillSchool x = new HillSchool();
            x.child(3);
            x.trips(0, 5);
            int[] wrong = {21, -1, MIN, MAX};
            for (int k = 0; k < wrong.length; k++) {
                refused(x, "trips(0, " + wrong[k] + ")", k, x.trips(0, wrong[k]), -1);
            }
            due("stays", x.fact(0, 2), 5);
        });
        sentence("30", "-2.", () -> {
            HillSchool x = new HillSchool();
            refused(x, "no child at all", 0, x.trips(0, 1), -2);
            x.child(3);
            refused(x, "1", 1, x.trips(1, 1), -2);
            refused(x, "-1", 2, x.trips(-1, 1), -2);
            refused(x, "-1 goes ahead", 3, x.trips(1, 21), -1);
        });
        sentence("31", "CULPRITS by ounces on each TRIP, so much more: how many sets (what 0), the lowest (1)", () -> {
            HillSchool x = new HillSchool();
            for (int child = 0; child < 6; child++) {
                x.child(9);
            }
            due("all of 64", x.culprits(9, 0, 0), 64);
            due("the lowest", x.culprits(9, 0, 1), 0);
            for (int child = 0; child < 6; child++) {
                x.trips(child, 1 << Math.min(child, 4));
            }
            due("31: {0, 1, 2, 3, 4}, {0, 1, 2, 3, 5}", x.culprits(1, 31, 0), 2);
            due("the lowest", x.culprits(1, 31, 1), 31);
            due("48", x.culprits(1, 48, 0), 0);
            due("47: all", x.culprits(1, 47, 1), 63);
            due("16: {4}, {5}", x.culprits(1, 16, 1), 16);
            x.expel(4, 1);
            due("expelled or not", x.culprits(1, 16, 1), 16);
        });
        sentence("31", ", CHILDREN in all of them (2), in none (3)", () -> {
            HillSchool x = new HillSchool();
            for (int child = 0; child < 6; child++) {
                x.child(9);
                x.trips(child, 1 << Math.min(child, 4));
            }
            due("in all", x.culprits(1, 17, 2), 1);
            due("in none", x.culprits(1, 17, 3), 14);
            due("in all of one", x.culprits(1, 47, 2), 63);
            due("in none of one", x.culprits(1, 47, 3), 0);
            due("in all of the empty one", x.culprits(1, 0, 2), 0);
            due("in none of the empty one", x.culprits(1, 0, 3), 63);
        });
        sentence("31", ", the best CHILD to WEIGH (4).", () -> {
            HillSchool x = new HillSchool();
            for (int child = 0; child < 6; child++) {
                x.child(9);
                x.trips(child, 1 << Math.min(child, 4));
            }
            due("of two, the first by whom they part", x.culprits(1, 17, 4), 4);
            due("of one, the lowest", x.culprits(1, 47, 4), 0);
            due("what 5", x.culprits(1, 47, 5), NONE);
            due("what -1", x.culprits(1, 47, -1), NONE);
        });
        sentence("31", "NONE (no set, for 1 .. 4; no CHILDREN, for 4).", () -> {
            HillSchool x = new HillSchool();
            found(x, 1, 0, 1, 0, 0, 0, NONE);
            found(x, 1, 1, 0, NONE, NONE, NONE, NONE);
            x.child(9);
            x.trips(0, 2);
            found(x, 1, 0, 1, 0, 0, 1, 0);
            found(x, 1, 1, 0, NONE, NONE, NONE, NONE);
            found(x, 1, 2, 1, 1, 1, 0, 0);
            int[][] wrong = {{0, 0}, {10, 0}, {1, -1}, {1, 1000}, {MIN, MIN}, {MAX, MAX}};
            for (int[] one : wrong) {
                found(x, one[0], one[1], NONE, NONE, NONE, NONE, NONE);
            }
            due("999", x.culprits(9, 999, 0), 0);
            due("no refusal", refusals(x), 0);
        });
    }

    private static void searched() {
        sentence("32", "TWO SCHOOLS, so many turns, who is first: SHADES in the end (what 0)", () -> {
            HillSchool x = high(3, 0, 0);
            x.child(1);
            x.parish(0);
            due("1, 0", x.duel(1, 0, 0), 2);
            due("2, 0", x.duel(2, 0, 0), 1);
            due("2, 1", x.duel(2, 1, 0), 3);
            x.parish(2);
            due("1, 0", x.duel(1, 0, 0), 3);
            due("4, 0", x.duel(4, 0, 0), 2);
            due("4, 1", x.duel(4, 1, 0), 4);
            heights(x, 3, 0, 0);
        });
        sentence("32", ", from (1), to (2) of the first CARRYING (lowest ones; NONE: he passes).", () -> {
            HillSchool x = high(1, 1, 1, 1);
            outcome(x, 4, 1, 0, NONE, NONE);
            x.child(1);
            outcome(x, 1, 0, 0, 0, 1);
            outcome(x, 1, 1, 0, 0, 1);
            x.parish(3);
            outcome(x, 1, 0, 2, 0, 3);
            outcome(x, 1, 1, 0, 3, 0);
            inForce(x, "bars if from<2 or to=3");
            outcome(x, 1, 0, 1, 2, 0);
            outcome(x, 1, 1, 0, 3, 0);
            inForce(x, "bars if from=3 or to=3");
            outcome(x, 1, 1, 1, 0, 1);
        });
        sentence("32", "NONE (not 4 COLUMNS at most, too).", () -> {
            HillSchool x = high(1, 0, 0, 0);
            x.child(1);
            outcome(x, 1, 0, 0, 0, 1);
            int[][] wrong = {{0, 0}, {5, 0}, {-1, 0}, {1, 2}, {1, -1}, {MIN, 0}, {MAX, MAX}};
            for (int[] one : wrong) {
                outcome(x, one[0], one[1], NONE, NONE, NONE);
            }
            x.column();
            outcome(x, 1, 0, NONE, NONE, NONE);
            due("no refusal", refusals(x), 0);
        });
        sentence("33", "LAYERS of a COLUMN (0 without STONES).", () -> {
            HillSchool x = hill(w(), w(30), w(1, 2, 1, 2), w(1, 1, 1), w(3, 2, 1), w(1, 30, 29, 30));
            int[] want = {0, 1, 3, 1, 1, 3};
            for (int column = 0; column < want.length; column++) {
                due("layers(" + column + ")", x.layers(column), want[column]);
            }
            x.lift(1);
            due("the last is taken away", x.layers(1), 0);
        });
        sentence("33", "NONE.", () -> {
            HillSchool x = hill(w(1));
            due("1", x.layers(1), NONE);
            due("-1", x.layers(-1), NONE);
            due("max", x.layers(MAX), NONE);
            due("min", x.layers(MIN), NONE);
        });
        sentence("34", "RAIN, n 1 .. 40 days, kept as the latest: how many STONES are washed away.", () -> {
            HillSchool x = high(10);
            due("1", x.rain(0, 1), 1);
            drops(x, 9, 9);
            due("40", x.rain(0, 40), 10);
            drops(x, 0, 0);
            due("the hill itself each time", x.rain(3, 2), 2);
            drops(x, 8, 8);
            due("the hill stays", x.of(0, NONE), 10);
            due("status", x.status(), 0);
        });
        sentence("34", "-1.", () -> {
            HillSchool x = high(3);
            x.rain(0, 1);
            int[][] wrong = {{0, 0}, {0, 41}, {-1, 1}, {1_000_001, 1}, {0, -1}, {MIN, MIN}, {MAX, MAX}};
            for (int k = 0; k < wrong.length; k++) {
                refused(x, "rain(" + wrong[k][0] + ", " + wrong[k][1] + ")", k, x.rain(wrong[k][0], wrong[k][1]), -1);
            }
            drops(x, 2, 2);
        });
        sentence("34", "(Without COLUMNS: none.)", () -> {
            HillSchool x = new HillSchool();
            due("rain", x.rain(0, 40), 0);
            due("status", x.status(), 0);
            due("rained", x.rained(0, 0), NONE);
            refused(x, "days", 0, x.rain(0, 41), -1);
            x.image(0);
            x.column();
            x.rain(0, 1);
            due("rained", x.rained(0, 0), 0);
            x.back(0);
            x.rain(0, 1);
            due("rained, the latest had none", x.rained(0, 0), NONE);
        });
        sentence("35", "Behind the latest RAIN how many STONES a COLUMN has (what 0), their WEIGHT (1).", () -> {
            HillSchool x = hill(w(4, 2), w(6));
            x.rain(0, 1);
            drops(x, 2, 6, 0, 0);
            x.stone(1, 30);
            x.lift(0);
            x.column();
            drops(x, 2, 6, 0, 0);
            // 17,860 is 1 of 3.
            x.rain(5, 1);
            drops(x, 1, 4, 1, 6, 1, 30);
        });
        sentence("35", "NONE.", () -> {
            HillSchool x = hill(w(4, 2), w(6));
            due("ahead of any", x.rained(0, 0), NONE);
            due("ahead of any", x.rained(0, 1), NONE);
            x.rain(0, 0);
            due("ahead of any that was not refused", x.rained(0, 0), NONE);
            x.rain(0, 1);
            due("what 2", x.rained(0, 2), NONE);
            due("what -1", x.rained(0, -1), NONE);
            due("2", x.rained(2, 0), NONE);
            due("-1", x.rained(-1, 0), NONE);
            due("max", x.rained(MAX, MAX), NONE);
            due("min", x.rained(MIN, MIN), NONE);
            x.column();
            due("one that the rain had not", x.rained(2, 0), NONE);
        });
    }

    private static void images() {
        sentence("36", "IMAGE k is kept: 0", () -> {
            HillSchool x = hill(w(4));
            due("image(0)", x.image(0), 0);
            x.stone(0, 5);
            due("image(1)", x.image(1), 0);
            x.stone(0, 6);
            x.back(0);
            stones(x, 0, 4);
            x.back(1);
            stones(x, 0, 4, 5);
            x.stone(0, 7);
            due("anew", x.image(0), 0);
            x.back(1);
            x.back(0);
            stones(x, 0, 4, 5, 7);
        });
        sentence("36", "; -1.", () -> {
            HillSchool x = hill(w(4));
            int[] wrong = {2, -1, MIN, MAX};
            for (int k = 0; k < wrong.length; k++) {
                refused(x, "image(" + wrong[k] + ")", k, x.image(wrong[k]), -1);
            }
            refused(x, "none was kept", 4, x.back(0), -2);
            refused(x, "none was kept", 5, x.back(1), -2);
        });
        sentence("37", "BACK to IMAGE k: 0.", () -> {
            HillSchool x = full();
            String then = kept(x);
            x.image(1);
            x.lift(0);
            x.goal(0, 7);
            x.force(4);
            due("back(1)", x.back(1), 0);
            due("status", x.status(), 0);
            same("what is kept", kept(x), then);
            due("once more", x.back(1), 0);
        });
        sentence("37", "-1;", () -> {
            HillSchool x = hill(w(4));
            x.image(0);
            x.image(1);
            x.stone(0, 5);
            int[] wrong = {2, -1, MIN, MAX};
            for (int k = 0; k < wrong.length; k++) {
                refused(x, "back(" + wrong[k] + ")", k, x.back(wrong[k]), -1);
            }
            stones(x, 0, 4, 5);
        });
        sentence("37", "-2 it was not kept.", () -> {
            HillSchool x = hill(w(4));
            refused(x, "back(0)", 0, x.back(0), -2);
            refused(x, "back(1)", 1, x.back(1), -2);
            x.image(1);
            x.stone(0, 5);
            refused(x, "back(0)", 2, x.back(0), -2);
            stones(x, 0, 4, 5);
            x.back(1);
            refused(x, "an image does not keep images", 3, x.back(0), -2);
        });
        sentence("38", "0 COLUMNS, 1 STONES, 2 CHILDREN, 3 PARISHES, 4 LAWS, 5 bytes of the TAPE", () -> {
            HillSchool x = full();
            int[] want = {12, 13, 6, 6, 6, 3};
            for (int what = 0; what < want.length; what++) {
                due("count(" + what + ")", x.count(what), want[what]);
            }
            x.lift(0);
            due("one less", x.count(1), 12);
            HillSchool most = new HillSchool();
            for (int column = 0; column < 12; column++) {
                most.column();
                write(most, column, 1, 1, 1, 1, 1, 1, 1, 1, 1, 1);
                most.row();
            }
            due("all", most.count(1), 120);
        });
        sentence("38", ", 6 .. 10 how many calls were REFUSED by -1, -2, -3, -5, -6 (IMAGES do not keep that)", () -> {
            HillSchool x = full();
            x.image(1);
            x.stone(0, 0);
            x.lift(12);
            x.lift(12);
            for (int n = 0; n < 3; n++) {
                x.lift(11);
            }
            for (int n = 0; n < 4; n++) {
                x.column();
            }
            x.end(0);
            for (int n = 0; n < 4; n++) {
                x.row();
            }
            for (int what = 6; what < 11; what++) {
                due("count(" + what + ")", x.count(what), what - 5);
            }
            x.back(1);
            for (int what = 6; what < 11; what++) {
                due("count(" + what + ") behind back", x.count(what), what - 5);
            }
            x.goal(0, 11);
            due("goal, too", x.count(6), 2);
            x.end(-1);
            x.of(99, 99);
            due("but no other", refusals(x), 16);
        });
        sentence("38", ", 11 the LAW in FORCE, 12 .. 15 TERMS 0 .. 3.", () -> {
            HillSchool x = full();
            due("the law", x.count(11), 0);
            x.force(5);
            due("the law", x.count(11), 5);
            x.force(NONE);
            due("none", x.count(11), NONE);
            int[] values = {99, 9, 8, 30};
            for (int what = 0; what < 4; what++) {
                x.terms(what, values[what]);
            }
            for (int what = 0; what < 4; what++) {
                due("term " + what, x.count(12 + what), values[what]);
            }
        });
        sentence("38", "NONE for others.", () -> {
            HillSchool x = full();
            due("16", x.count(16), NONE);
            due("-1", x.count(-1), NONE);
            due("max", x.count(MAX), NONE);
            due("min", x.count(MIN), NONE);
        });
    }

    private static void status() {
        String calls = "column, stone, lift, child, expel, parish, terms, row, law, force, carry, exchange, goal, trips, rain, image, back";
        sentence("39", "What the latest call of " + calls + " was REFUSED by", () -> {
            String[] names = calls.split(", ");
            int[] by = {-5, -2, -3, -5, -2, -5, -1, -6, -5, -2, -3, -3, -2, -1, -1, -1, -2};
            for (int call = 0; call < names.length; call++) {
                HillSchool x = full();
                x.force(0);
                refusal(x, names[call]);
                due(names[call], x.status(), by[call]);
                due(names[call] + ", asked again", x.status(), by[call]);
                askAll(x);
                due(names[call] + ", behind other calls", x.status(), by[call]);
            }
        });
        sentence("39", "; 0 if it was not", () -> {
            String[] names = calls.split(", ");
            for (String name : names) {
                HillSchool x = hill(w(1, 2), w(3));
                x.child(9);
                x.image(0);
                law(x, "bars if 1=2");
                x.stone(0, 0);
                due("ahead of " + name, x.status(), -1);
                success(x, name);
                due(name, x.status(), 0);
            }
        });
        sentence("39", ", or ahead of any.", () -> {
            HillSchool x = new HillSchool();
            due("at first", x.status(), 0);
            askAll(x);
            due("behind other calls", x.status(), 0);
        });
    }

    /** A call on the full hill that is refused. */
    private static void refusal(HillSchool x, String name) {
        switch (name) {
            case "column": x.column(); break;
            case "stone": x.stone(12, 1); break;
            case "lift": x.lift(11); break;
            case "child": x.child(1); break;
            case "expel": x.expel(6, 1); break;
            case "parish": x.parish(0); break;
            case "terms": x.terms(9, 9); break;
            case "row": x.end(0); x.row(); break;
            case "law": x.law(); break;
            case "force": x.force(6); break;
            case "carry": x.carry(1, 11, 0); break;
            case "exchange": x.exchange(1, 11, 0, 2); break;
            case "goal": x.goal(12, 0); break;
            case "trips": x.trips(0, 21); break;
            case "rain": x.rain(0, 0); break;
            case "image": x.image(2); break;
            default: x.back(1); break;
        }
    }

    /** A call that is not refused, on columns 1 2 and 3 and a child. */
    private static void success(HillSchool x, String name) {
        switch (name) {
            case "column": due(name, x.column(), 2); break;
            case "stone": due(name, x.stone(1, 4), 2); break;
            case "lift": due(name, x.lift(1), 3); break;
            case "child": due(name, x.child(1), 1); break;
            case "expel": due(name, x.expel(0, 1), 0); break;
            case "parish": due(name, x.parish(0), 0); break;
            case "terms": due(name, x.terms(3, 30), 1); break;
            case "row": write(x, 1, 4); due(name, x.row(), 1); break;
            case "law": due(name, law(x, "bars"), 1); break;
            case "force": due(name, x.force(0), NONE); break;
            case "carry": due(name, x.carry(0, 0, 1), 2); break;
            case "exchange": x.terms(3, 0); x.stone(0, 0); due(name, x.exchange(0, 0, 1, 1), 0); break;
            case "goal": due(name, x.goal(1, 0), NONE); break;
            case "trips": due(name, x.trips(0, 4), 0); break;
            case "rain": due(name, x.rain(0, 1), 1); break;
            case "image": due(name, x.image(1), 0); break;
            default: due(name, x.back(0), 0); break;
        }
    }

    /** Every call that the status does not tell of, with numbers that can't be and with some that can. */
    private static void askAll(HillSchool x) {
        for (int n = -1; n < 2; n++) {
            x.of(n, n);
            x.weight(n);
            x.fact(n, n);
            x.gravel();
            x.fault();
            x.can(n, n, 1 - n);
            x.tires(n, n, 1 - n);
            x.steep();
            x.shade(n);
            x.gains(n, n, n, 1 - n);
            x.plan(n, n, n);
            x.weighs(n);
            x.culprits(n, n, n);
            x.duel(n, n, n);
            x.layers(n);
            x.rained(n, n);
            x.count(n);
        }
        x.feed(0, 0, 0, 0, 0);
        x.end(-1);
        x.end(0);
        x.slide();
    }

    public static void main(String[] args) throws IOException {
        open();
        made();
        people();
        tape();
        laws();
        carryings();
        slides();
        shades();
        plans();
        weighed();
        searched();
        images();
        status();
        for (int promise = 1; promise <= 39; promise++) {
            whole("" + promise);
        }
        close("all boundaries of the promises hold");
    }
}
