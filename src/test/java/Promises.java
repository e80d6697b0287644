/** For each promise of the document: ordinary calls, the edges that it names, wrong calls. */
public final class Promises extends Bench {
    private static void promise1() {
        at("promise 1");
        HillSchool x = new HillSchool();
        int[] first = {0, 0, 0, 0, 0, 0, 0, 0, 0, 0, 0, NONE, 0, 1, 3, 1};
        for (int what = 0; what < first.length; what++) {
            due("count(" + what + ")", x.count(what), first[what]);
        }
        due("of(0, NONE)", x.of(0, NONE), NONE);
        due("weight(0)", x.weight(0), NONE);
        due("status()", x.status(), 0);
        due("fault()", x.fault(), NONE);
        due("gravel()", x.gravel(), 0);
        due("steep()", x.steep(), NONE);
        due("slide()", x.slide(), 0);
        due("shade(NONE)", x.shade(NONE), 0);
        due("weighs(0)", x.weighs(0), 1);
        due("rained(0, 0)", x.rained(0, 0), NONE);
        due("plan(0, NONE, 0)", x.plan(0, NONE, 0), 0);
        due("NONE", NONE, -1);
        due("NOTHING", NOTHING, -1000);
    }

    private static void promise2() {
        at("promise 2");
        HillSchool x = new HillSchool();
        for (int column = 0; column < 12; column++) {
            due("column()", x.column(), column);
            due("goal", x.goal(column, NONE), NONE);
            due("of", x.of(column, NONE), 0);
        }
        refused(x, "column()", 0, x.column(), -5);
        due("count(9)", x.count(9), 1);
        due("count(0)", x.count(0), 12);
    }

    private static void promise3() {
        at("promise 3");
        HillSchool x = hill(w(), w());
        due("stone(1, 1)", x.stone(1, 1), 1);
        due("stone(1, 30)", x.stone(1, 30), 2);
        due("status", x.status(), 0);
        due("stone(0, 7)", x.stone(0, 7), 1);
        refused(x, "stone(1, 0)", 0, x.stone(1, 0), -1);
        refused(x, "stone(1, 31)", 1, x.stone(1, 31), -1);
        refused(x, "stone(1, min)", 2, x.stone(1, Integer.MIN_VALUE), -1);
        refused(x, "stone(2, 31)", 3, x.stone(2, 31), -1);
        refused(x, "stone(2, 3)", 4, x.stone(2, 3), -2);
        refused(x, "stone(-1, 3)", 5, x.stone(-1, 3), -2);
        refused(x, "stone(max, 3)", 6, x.stone(Integer.MAX_VALUE, 3), -2);
        for (int i = 3; i <= 10; i++) {
            due("stone(1, 3)", x.stone(1, 3), i);
        }
        refused(x, "stone(1, 3)", 7, x.stone(1, 3), -5);
        refused(x, "stone(1, 0)", 8, x.stone(1, 0), -1);
        heights(x, 1, 10);
        due("count(1)", x.count(1), 11);
    }

    private static void promise4() {
        at("promise 4");
        HillSchool x = hill(w(4, 9), w());
        due("lift(0)", x.lift(0), 9);
        heights(x, 1, 0);
        due("lift(0)", x.lift(0), 4);
        refused(x, "lift(0)", 0, x.lift(0), -3);
        refused(x, "lift(1)", 1, x.lift(1), -3);
        refused(x, "lift(2)", 2, x.lift(2), -2);
        refused(x, "lift(-1)", 3, x.lift(-1), -2);
        refused(x, "lift(min)", 4, x.lift(Integer.MIN_VALUE), -2);
        due("stone(0, 5)", x.stone(0, 5), 1);
        due("status", x.status(), 0);
    }

    private static void promise5() {
        at("promise 5");
        HillSchool x = hill(w(4, 9, 2), w());
        due("of(0, NONE)", x.of(0, NONE), 3);
        due("of(0, 0)", x.of(0, 0), 4);
        due("of(0, 1)", x.of(0, 1), 9);
        due("of(0, 2)", x.of(0, 2), 2);
        due("of(0, 3)", x.of(0, 3), NONE);
        due("of(0, -2)", x.of(0, -2), NONE);
        due("of(0, max)", x.of(0, Integer.MAX_VALUE), NONE);
        due("of(1, NONE)", x.of(1, NONE), 0);
        due("of(1, 0)", x.of(1, 0), NONE);
        due("of(2, NONE)", x.of(2, NONE), NONE);
        due("of(-1, 0)", x.of(-1, 0), NONE);
        due("refusals", refusals(x), 0);
    }

    private static void promise6() {
        at("promise 6");
        HillSchool x = hill(w(4, 9, 2), w());
        due("weight(0)", x.weight(0), 15);
        due("weight(1)", x.weight(1), 0);
        due("weight(2)", x.weight(2), NONE);
        due("weight(-1)", x.weight(-1), NONE);
        x.lift(0);
        due("weight(0)", x.weight(0), 13);
    }

    private static void promise7() {
        at("promise 7");
        HillSchool x = new HillSchool();
        due("child(1)", x.child(1), 0);
        due("child(60)", x.child(60), 1);
        refused(x, "child(0)", 0, x.child(0), -1);
        refused(x, "child(61)", 1, x.child(61), -1);
        refused(x, "child(min)", 2, x.child(Integer.MIN_VALUE), -1);
        for (int i = 2; i < 6; i++) {
            due("child(9)", x.child(9), i);
        }
        refused(x, "child(9)", 3, x.child(9), -5);
        refused(x, "child(61)", 4, x.child(61), -1);
        due("count(2)", x.count(2), 6);
        due("fact(1, 0)", x.fact(1, 0), 60);
    }

    private static void promise8() {
        at("promise 8");
        HillSchool x = hill(w(2), w());
        x.child(5);
        x.child(5);
        due("expel(0, 0)", x.expel(0, 0), 0);
        due("expel(0, 1)", x.expel(0, 1), 0);
        due("can(0, 0, 1)", x.can(0, 0, 1), 0);
        due("can(1, 0, 1)", x.can(1, 0, 1), 1);
        due("expel(0, 1)", x.expel(0, 1), 1);
        due("expel(0, 0)", x.expel(0, 0), 1);
        due("can(0, 0, 1)", x.can(0, 0, 1), 1);
        refused(x, "expel(0, 2)", 0, x.expel(0, 2), -1);
        refused(x, "expel(0, -1)", 1, x.expel(0, -1), -1);
        refused(x, "expel(9, 2)", 2, x.expel(9, 2), -1);
        refused(x, "expel(2, 1)", 3, x.expel(2, 1), -2);
        refused(x, "expel(-1, 0)", 4, x.expel(-1, 0), -2);
    }

    private static void promise9() {
        at("promise 9");
        HillSchool x = new HillSchool();
        x.child(5);
        x.child(44);
        x.trips(1, 7);
        x.expel(1, 1);
        int[][] want = {{5, 0, 0, NONE}, {44, 1, 7, NONE}, {NONE, NONE, NONE, NONE}};
        for (int child = 0; child < 3; child++) {
            for (int what = 0; what < 4; what++) {
                due("fact(" + child + ", " + what + ")", x.fact(child, what), want[child][what]);
            }
        }
        due("fact(-1, 0)", x.fact(-1, 0), NONE);
        due("fact(0, -1)", x.fact(0, -1), NONE);
    }

    private static void promise10() {
        at("promise 10");
        HillSchool x = hill(w(), w());
        for (int parish = 0; parish < 6; parish++) {
            due("parish", x.parish(parish % 2), parish);
        }
        due("count(3)", x.count(3), 6);
        refused(x, "parish(0)", 0, x.parish(0), -5);
        refused(x, "parish(2)", 1, x.parish(2), -2);
        refused(x, "parish(-1)", 2, x.parish(-1), -2);
        due("count(3)", x.count(3), 6);
    }

    private static void promise11() {
        at("promise 11");
        HillSchool x = new HillSchool();
        int[] first = {0, 1, 3, 1};
        int[] least = {0, 1, 1, 0};
        int[] most = {99, 9, 9, 30};
        for (int what = 0; what < 4; what++) {
            due("terms(most)", x.terms(what, most[what]), first[what]);
            due("count", x.count(12 + what), most[what]);
            refused(x, "terms(too high)", 2 * what, x.terms(what, most[what] + 1), -1);
            refused(x, "terms(too low)", 2 * what + 1, x.terms(what, least[what] - 1), -1);
            due("terms(least)", x.terms(what, least[what]), most[what]);
            due("count", x.count(12 + what), least[what]);
        }
        refused(x, "terms(4, 1)", 8, x.terms(4, 1), -1);
        refused(x, "terms(-1, 1)", 9, x.terms(-1, 1), -1);
    }

    private static void promise12() {
        at("promise 12");
        HillSchool x = hill(w());
        due("feed", x.feed(0x00010203, 0x04050607, 0x08090a0b, 0x0c0d0e0f, 0x10111213), 20);
        due("row", x.row(), 10);
        for (int i = 0; i < 10; i++) {
            due("of(0, " + i + ")", x.of(0, i), i + 1);
        }
        for (int i = 1; i <= 20; i++) {
            due("feed", x.feed(-1, -1, -1, -1, -1), 20 * i);
        }
        due("feed", x.feed(0, 0, 0, 0, 0), NONE);
        due("count(5)", x.count(5), 400);
        due("status", x.status(), 0);
        x.end(381);
        due("feed", x.feed(0, 0, 0, 0, 0), NONE);
        due("count(5)", x.count(5), 381);
        x.end(380);
        due("feed", x.feed(0, 0, 0, 0, 0), 400);
        due("refusals", refusals(x), 0);
    }

    private static void promise13() {
        at("promise 13");
        HillSchool x = hill(w());
        due("end(0)", x.end(0), 0);
        due("end(1)", x.end(1), NONE);
        write(x, 0, 5, 6, 7);
        due("end(5)", x.end(5), NONE);
        due("end(-1)", x.end(-1), NONE);
        due("end(min)", x.end(Integer.MIN_VALUE), NONE);
        due("count(5)", x.count(5), 4);
        due("end(4)", x.end(4), 4);
        due("end(3)", x.end(3), 3);
        due("end(4)", x.end(4), NONE);
        due("row", x.row(), 2);
        due("of(0, 1)", x.of(0, 1), 6);
        due("refusals", refusals(x), 0);
    }

    private static void promise14() {
        at("promise 14");
        HillSchool x = hill(w(), w(8));
        refused(x, "row()", 0, x.row(), -6);
        write(x, 1, 5, 0, 30, 31, 255);
        due("row", x.row(), 2);
        due("count(5)", x.count(5), 0);
        due("of(1, 0)", x.of(1, 0), 8);
        due("of(1, 1)", x.of(1, 1), 5);
        due("of(1, 2)", x.of(1, 2), 30);
        heights(x, 0, 3);
        write(x, 1);
        due("row of no stones", x.row(), 0);
        due("status", x.status(), 0);
        write(x, 2, 5);
        refused(x, "row()", 1, x.row(), -6);
        due("count(5)", x.count(5), 0);
        write(x, 255, 5);
        refused(x, "row()", 2, x.row(), -6);
        write(x, 1, 1, 1, 1, 1, 1, 1, 2, 3, 4, 5);
        due("row", x.row(), 7);
        due("of(1, 9)", x.of(1, 9), 2);
        due("count(10)", x.count(10), 3);
    }

    private static void promise15() {
        at("promise 15");
        HillSchool x = hill(w(), w(8));
        x.row();
        due("gravel", x.gravel(), 0);
        write(x, 1, 5, 0, 30, 31, 255);
        x.row();
        due("gravel", x.gravel(), 3);
        x.row();
        write(x, 7, 0, 0, 0, 0);
        x.row();
        due("gravel behind refused ones", x.gravel(), 3);
        write(x, 1, 1, 1, 1, 1, 1, 1, 2, 3, 4);
        x.row();
        due("gravel without room", x.gravel(), 2);
        write(x, 0);
        x.row();
        due("gravel", x.gravel(), 0);
    }

    private static void promise16() {
        at("promise 16");
        sound("tires 1");
        sound("bars");
        sound("  bars  ");
        sound("tires[1+2]*3/child-strength+weight*from/to-high+low*term if not(1<2 or 3>4)and 5=6;bars");
        sound("bars if not not not 1=1");
        sound("tires 0001000");
        sound("tires " + times("[", 8) + "1" + times("]", 8));
        sound("bars if " + times("(", 8) + "1=1" + times(")", 8));
        sound("bars if ((((([[[1]]]=1)))))and[[[[[[[[1]]]]]]]]=1");
        sound("tires 1" + times("+1", 49));
        sound("bars" + times(";bars", 11));
        sound("bars if " + times("not ", 97) + "1=1");
        faulty("", 0);
        faulty("   ", 3);
        faulty("tires", 5);
        faulty("tires ", 6);
        faulty("tires if", 6);
        faulty("bars if", 7);
        faulty("bars 1", 5);
        faulty("bars;", 5);
        faulty("bars; ;", 6);
        faulty(";bars", 0);
        faulty("Bars", 0);
        faulty("barsif 1=1", 0);
        faulty("bars\tif 1=1", 4);
        faulty("tiresz 1", 0);
        faulty("tiresa 1", 0);
        faulty("tires weightz", 6);
        faulty("tires 1`", 7);
        faulty("tires 1{", 7);
        faulty("tires 0:", 7);
        faulty(times(";", 400), 0);
        faulty("bars if " + times("not ", 98), 400);
        faulty("tires1 if 1=1 tires", 14);
        faulty("tires 1001", 6);
        faulty("tires 99999999999999999999", 6);
        faulty("tires (1)", 6);
        faulty("tires 1+", 8);
        faulty("tires 1+*2", 8);
        faulty("tires -1", 6);
        faulty("tires [1", 8);
        faulty("tires [1)", 8);
        faulty("tires 1]", 7);
        faulty("tires children", 6);
        faulty("tires 1 < 2", 8);
        faulty("bars if 1", 9);
        faulty("bars if 1 if", 10);
        faulty("bars if 1=1=1", 11);
        faulty("bars if (1)=1", 10);
        faulty("bars if [1=1]", 10);
        faulty("bars if (1=1", 12);
        faulty("bars if 1=1)", 11);
        faulty("bars if 1=1 or", 14);
        faulty("bars if 1=1 or and", 15);
        faulty("bars if 1=1 not", 12);
        faulty("bars if 1<=1", 10);
        faulty("bars if not", 11);
        faulty("bars if and", 8);
        faulty("tires " + times("[", 9) + "1" + times("]", 9), 14);
        faulty("bars if " + times("(", 9) + "1=1" + times(")", 9), 16);
        faulty("bars if ((((([[[[1]]]]=1)))))", 16);
        faulty("tires 1" + times("+1", 50), 106);
        faulty(times("tires 1+1+1+1+1;", 10) + "tires 1", 166);
        sound(times("tires 1+1+1+1+1;", 10) + "bars");
        faulty("bars" + times(";bars", 12), 60);
        faulty("bars" + times(";bars", 11) + "; 7", 61);
        faulty("bars" + times(";bars", 11) + "; ", 61);
        faulty("tires 1" + times(";tires 1", 11) + " tires", 96);
        HillSchool x = new HillSchool();
        for (int i = 0; i < 6; i++) {
            due("law", law(x, "tires " + i), i);
        }
        refused(x, "law of no room", 0, law(x, "no text"), -5);
        due("tape", x.count(5), 0);
        due("fault is of a text that was read", x.fault(), NONE);
        refused(x, "law of no room", 1, x.law(), -5);
        due("count(4)", x.count(4), 6);
    }

    private static void promise17() {
        at("promise 17");
        HillSchool x = new HillSchool();
        due("fault", x.fault(), NONE);
        law(x, "tires x");
        due("fault", x.fault(), 6);
        due("fault", x.fault(), 6);
        law(x, "tires 1");
        due("fault", x.fault(), NONE);
        for (int i = 0; i < 4; i++) {
            law(x, "tires 1");
        }
        law(x, "no");
        due("fault", x.fault(), 0);
        law(x, "bars");
        law(x, "no");
        due("fault without room", x.fault(), NONE);
        law(x, "tires 12 x");
        due("fault without room", x.fault(), NONE);
        x.law();
        due("fault without room", x.fault(), NONE);
        promise17Values();
    }

    /** What laws mean. */
    private static void promise17Values() {
        due("child", tiresBy("tires child"), 2);
        due("strength", tiresBy("tires strength"), 20);
        due("weight", tiresBy("tires weight"), 7);
        due("from", tiresBy("tires from"), 1);
        due("to", tiresBy("tires to"), 3);
        due("high", tiresBy("tires high*10+low"), 32);
        due("term", tiresBy("tires term"), 6);
        due("without", tiresBy("tires 5 if 1=2"), 2);
        due("last that holds", tiresBy("tires 5; tires 6; tires 7 if 1=2"), 6);
        due("first that holds", tiresBy("tires 5; tires 6 if 1=2; tires 7 if 1=2"), 5);
        due("precedence", tiresBy("tires 2+3*4-10/5"), 12);
        due("from the left", tiresBy("tires 20-5-3"), 12);
        due("from the left", tiresBy("tires 100/5/2*3"), 30);
        due("brackets", tiresBy("tires [2+3]*[10-[2*2]]"), 30);
        due("cut towards 0", tiresBy("tires 50+[0-7]/2"), 47);
        due("cut towards 0", tiresBy("tires 50+7/[0-2]"), 47);
        due("99 at most", tiresBy("tires 100"), 99);
        due("0 at least", tiresBy("tires 0-1"), 0);
        due("99", tiresBy("tires 99"), 99);
        due("divided by 0", tiresBy("tires 5; tires 1/0"), 5);
        due("divided by 0", tiresBy("tires 5; tires 1/[from-1]"), 5);
        due("beyond", tiresBy("tires 5; tires [1000*1000*1000+1]/1000/1000/1000"), 5);
        due("not beyond", tiresBy("tires 5; tires 1000*1000*1000/1000/1000/1000"), 1);
        due("beyond below", tiresBy("tires 5; tires 0-1000*1000*1000-1+1000*1000*1000"), 5);
        due("not beyond below", tiresBy("tires 5; tires 0-1000*1000*1000+1000*1000*1000+8"), 8);
        due("far beyond", tiresBy("tires 5; tires 1000" + times("*1000", 20) + "*0"), 5);
        due("the others hold", tiresBy("tires 1/0; tires 8"), 8);
        due("the test is broken", tiresBy("tires 8; tires 9 if 1/0=1"), 8);
        due("the sum alone is broken", tiresBy("tires 8; tires 1/0 if 1=1; bars if 1/0=1 or 1=1"), 8);
        so("1<2", true);
        so("2<2", false);
        so("2>1", true);
        so("2>2", false);
        so("2=2", true);
        so("2=3", false);
        so("not 2=3", true);
        so("not not 2=3", false);
        so("not (not 2=3)", false);
        so("not (not 2=2)", true);
        so("not 1=1 and 1=1", false);
        so("not 1=2 and 1=1", true);
        so("not (not (not (2=3 and 1=1)))", true);
        so("(not 1=1) and 1=1", false);
        so("not 1=1 or 1=1", true);
        so("not (1=1 or 1=1)", false);
        so("not 1=2 and 1=2", false);
        so("1=1 or 1=1 and 1=2", true);
        so("(1=1 or 1=1) and 1=2", false);
        so("1=2 and 1=1 or 1=1", true);
        so("1=2 or 1=2 or 1=1", true);
        so("1=1 and 1=1 and 1=2", false);
        so("1=1 or 1/0=1", true);
        so("1/0=1 or 1=1", false);
        so("1=2 or 1/0=1", false);
        so("not (1=2 and 1/0=1)", true);
        so("not (1/0=1 and 1=2)", false);
        so("not (1=1 and 1/0=1)", false);
        so("not 1/0=1", false);
        so("(1=1 or 1/0=1) and 2=2", true);
        so("1=1 or 1/0=1 and 1=2", true);
        so("1=2 and 1/0=1 or 2=2", true);
        so("[0-1]*[0-1]=1 and weight*2>high*4", true);
        due("barred by one of two", tiresBy("bars; bars if 1=2"), NONE);
        due("barred, though it tires", tiresBy("bars; tires 4"), NONE);
    }

    private static void promise18() {
        at("promise 18");
        HillSchool x = hill(w(2), w());
        x.child(5);
        refused(x, "force(0)", 0, x.force(0), -2);
        law(x, "tires 8");
        law(x, "tires 9");
        due("tires", x.tires(0, 0, 1), 1);
        due("force(1)", x.force(1), NONE);
        due("tires", x.tires(0, 0, 1), 9);
        due("force(0)", x.force(0), 1);
        due("count(11)", x.count(11), 0);
        due("tires", x.tires(0, 0, 1), 8);
        refused(x, "force(2)", 1, x.force(2), -2);
        refused(x, "force(-2)", 2, x.force(-2), -2);
        due("force(NONE)", x.force(NONE), 0);
        due("status", x.status(), 0);
        due("count(11)", x.count(11), NONE);
        due("tires", x.tires(0, 0, 1), 1);
        due("force(NONE)", x.force(NONE), NONE);
        due("status", x.status(), 0);
    }

    private static void promise19() {
        at("promise 19");
        HillSchool x = hill(w(3, 8), w(), w(1, 1, 1, 1, 1, 1, 1, 1, 1, 1));
        x.child(8);
        x.child(7);
        due("as strong as it is heavy", x.can(0, 0, 1), 1);
        due("too weak", x.can(1, 0, 1), 0);
        due("no stone", x.can(0, 1, 0), 0);
        due("no room", x.can(0, 0, 2), 0);
        due("from the full one", x.can(0, 2, 0), 1);
        due("the same one", x.can(0, 0, 0), 0);
        due("can(2, 0, 1)", x.can(2, 0, 1), NONE);
        due("can(-1, 0, 1)", x.can(-1, 0, 1), NONE);
        due("can(0, 3, 1)", x.can(0, 3, 1), NONE);
        due("can(0, 0, 3)", x.can(0, 0, 3), NONE);
        due("can(0, -1, 1)", x.can(0, -1, 1), NONE);
        due("can(0, 0, -1)", x.can(0, 0, -1), NONE);
        inForce(x, "bars if to=1");
        due("barred", x.can(0, 0, 1), 0);
        due("not barred", x.can(0, 2, 0), 1);
        x.force(NONE);
        x.expel(0, 1);
        due("expelled", x.can(0, 0, 1), 0);
        due("refusals", refusals(x), 0);
        due("status", x.status(), 0);
    }

    private static void promise20() {
        at("promise 20");
        HillSchool x = hill(w(3), w(), w(), w(5));
        x.child(4);
        due("tires(0, 0, 1)", x.tires(0, 0, 1), 1);
        due("tires(0, 0, 3)", x.tires(0, 0, 3), 3);
        due("too weak", x.tires(0, 3, 0), NONE);
        due("no stone", x.tires(0, 1, 0), NONE);
        due("the same one", x.tires(0, 0, 0), NONE);
        due("no child", x.tires(1, 0, 1), NONE);
        due("no column", x.tires(0, 0, 4), NONE);
        due("no column", x.tires(0, -1, 0), NONE);
        inForce(x, "tires low*10+high; bars if to=1");
        due("tires(0, 0, 3)", x.tires(0, 0, 3), 11);
        due("barred", x.tires(0, 0, 1), NONE);
    }

    private static void promise21() {
        at("promise 21");
        HillSchool x = hill(w(3, 6), w(9));
        x.child(6);
        due("carry", x.carry(0, 0, 1), 6);
        heights(x, 1, 2);
        due("of(1, 1)", x.of(1, 1), 6);
        due("carry", x.carry(0, 1, 0), 6);
        due("carry", x.carry(0, 0, 1), 6);
        due("carry", x.carry(0, 0, 1), 3);
        heights(x, 0, 3);
        refused(x, "no stone", 0, x.carry(0, 0, 1), -3);
        refused(x, "the same one", 1, x.carry(0, 1, 1), -3);
        x.carry(0, 1, 0);
        x.carry(0, 1, 0);
        refused(x, "too heavy", 2, x.carry(0, 1, 0), -3);
        refused(x, "no child", 3, x.carry(1, 1, 0), -2);
        refused(x, "no child", 4, x.carry(-1, 1, 1), -2);
        refused(x, "no column", 5, x.carry(0, 2, 0), -2);
        refused(x, "no column", 6, x.carry(0, 0, -1), -2);
        inForce(x, "bars");
        refused(x, "barred", 7, x.carry(0, 0, 1), -3);
        heights(x, 2, 1);
    }

    private static void promise22() {
        at("promise 22");
        HillSchool x = hill(w(1, 4), w(2), w(9), w());
        x.child(9);
        due("exchange", x.exchange(0, 0, 1, 2), 5);
        heights(x, 2, 2, 0, 0);
        due("of(0, 1)", x.of(0, 1), 9);
        due("of(1, 1)", x.of(1, 1), 4);
        refused(x, "c has none", 0, x.exchange(0, 0, 1, 2), -3);
        heights(x, 2, 2, 0, 0);
        due("stays", x.of(0, 1), 9);
        refused(x, "the same stone", 1, x.exchange(0, 0, 1, 1), -3);
        due("stays", x.of(0, 1), 9);
        x.terms(3, 0);
        due("the same stone, unlike by 0", x.exchange(0, 0, 1, 1), 0);
        heights(x, 2, 2, 0, 0);
        due("stays", x.of(0, 1), 9);
        x.terms(3, 5);
        x.stone(3, 4);
        due("just unlike enough", x.exchange(0, 0, 2, 3), 5);
        x.terms(3, 6);
        refused(x, "not unlike enough", 2, x.exchange(0, 0, 3, 2), -3);
        x.terms(3, 1);
        refused(x, "a and b are one", 3, x.exchange(0, 0, 0, 1), -3);
        refused(x, "a and c are one", 4, x.exchange(0, 0, 1, 0), -3);
        refused(x, "no child", 5, x.exchange(1, 0, 1, 2), -2);
        refused(x, "no a", 6, x.exchange(0, 4, 1, 2), -2);
        refused(x, "no b", 7, x.exchange(0, 0, -1, 2), -2);
        refused(x, "no c", 8, x.exchange(0, 0, 1, 4), -2);
        refused(x, "no c ahead of what can't be", 9, x.exchange(0, 0, 0, 4), -2);
        x.child(8);
        refused(x, "too heavy down", 10, x.exchange(1, 0, 1, 2), -3);
        heights(x, 2, 2, 1, 0);
        inForce(x, "bars if to=0 and high>2");
        due("not barred", x.exchange(0, 0, 1, 2), 5);
        refused(x, "barred behind the first", 11, x.exchange(0, 0, 1, 1), -3);
        heights(x, 2, 3, 0, 0);
        HillSchool y = hill(w(3), w(1, 1, 1, 1, 1, 1, 1, 1, 1, 1), w(5));
        y.child(9);
        refused(y, "b is full", 0, y.exchange(0, 0, 1, 2), -3);
        due("a was full", y.exchange(0, 1, 0, 2), 4);
        heights(y, 2, 10, 0);
    }

    private static void promise23() {
        at("promise 23");
        due("as many more", high(3, 0).steep(), NONE);
        due("one more than that", high(4, 0).steep(), 0);
        due("to the left", high(0, 4).steep(), 1);
        due("the lowest", high(0, 0, 4, 0, 9).steep(), 2);
        due("alone", high(10).steep(), NONE);
        HillSchool x = high(2, 0, 9);
        due("steep 3", x.steep(), 2);
        x.terms(2, 1);
        due("steep 1", x.steep(), 0);
        x.terms(2, 9);
        due("steep 9", x.steep(), NONE);
        due("steep 9 of 10", high9(10, 0).steep(), 0);
    }

    private static HillSchool high9(int... heights) {
        HillSchool x = high(heights);
        x.terms(2, 9);
        return x;
    }

    private static void promise24() {
        at("promise 24");
        HillSchool x = high(0, 5, 0);
        due("slide", x.slide(), 2);
        heights(x, 1, 3, 1);
        due("slide", x.slide(), 0);
        HillSchool left = high(0, 4, 0);
        due("slide to the left", left.slide(), 1);
        heights(left, 1, 3, 0);
        HillSchool right = high(1, 4, 0);
        due("slide to the right", right.slide(), 1);
        heights(right, 1, 3, 1);
        HillSchool far = high(10, 0, 0, 0);
        far.terms(2, 1);
        far.slide();
        due("none is steep", far.steep(), NONE);
        heights(far, 4, 3, 2, 1);
        HillSchool stones = hill(w(1, 2, 3, 4, 5), w());
        due("slide", stones.slide(), 1);
        due("the top stone", stones.of(1, 0), 5);
        due("status stays", stones.status(), 0);
    }

    private static void promise25() {
        at("promise 25");
        HillSchool x = high(0, 5, 0, 0, 9, 0);
        for (int column = 0; column < 6; column++) {
            x.parish(column);
        }
        int[] one = {5, 6, 7, 8, 9, 8};
        int[] three = {2, 5, 3, 6, 9, 6};
        int[] nine = {0, 5, 0, 0, 9, 0};
        shades(x, 1, one);
        shades(x, 3, three);
        shades(x, 9, nine);
        due("shade(6)", x.shade(6), NONE);
        due("shade(-2)", x.shade(-2), NONE);
        due("together", x.shade(NONE), 14);
        due("no parishes", high(3).shade(NONE), 0);
        HillSchool y = high(3);
        y.parish(0);
        y.parish(0);
        due("two at one column", y.shade(NONE), 6);
    }

    private static void shades(HillSchool x, int slope, int[] want) {
        x.terms(1, slope);
        for (int parish = 0; parish < want.length; parish++) {
            due("slope " + slope + ", shade(" + parish + ")", x.shade(parish), want[parish]);
        }
    }

    private static void promise26() {
        at("promise 26");
        HillSchool x = hill(w(1, 1, 1), w(), w(), w(2));
        x.child(1);
        x.parish(0);
        x.parish(1);
        x.parish(3);
        due("gains", x.gains(0, 0, 0, 1), 1);
        due("none", x.gains(1, 0, 0, 1), 1);
        due("of others", x.gains(2, 0, 0, 3), -1);
        due("loses", x.gains(2, 0, 0, 3), -1);
        due("all stays", x.of(0, NONE), 3);
        due("can't be", x.gains(0, 0, 3, 0), NOTHING);
        due("the same one", x.gains(0, 0, 0, 0), NOTHING);
        due("no parish", x.gains(3, 0, 0, 1), NOTHING);
        due("no parish", x.gains(NONE, 0, 0, 1), NOTHING);
        due("no child", x.gains(0, 1, 0, 1), NOTHING);
        due("no column", x.gains(0, 0, 0, 4), NOTHING);
        due("no column", x.gains(0, 0, -1, 0), NOTHING);
        HillSchool steep = high(5, 0, 0, 0);
        steep.child(1);
        steep.parish(1);
        due("before any slides", steep.gains(0, 0, 0, 3), 1);
        due("refusals", refusals(x), 0);
    }

    private static void promise27() {
        at("promise 27");
        HillSchool x = high(1, 0);
        due("goal(0, 0)", x.goal(0, 0), NONE);
        due("goal(0, 10)", x.goal(0, 10), 0);
        due("goal(0, NONE)", x.goal(0, NONE), 10);
        due("status", x.status(), 0);
        due("goal(0, 3)", x.goal(0, 3), NONE);
        due("goal(1, 4)", x.goal(1, 4), NONE);
        due("goal(0, 11)", x.goal(0, 11), NOTHING);
        due("status", x.status(), -1);
        due("goal(0, -2)", x.goal(0, -2), NOTHING);
        due("status", x.status(), -1);
        due("goal(2, 11)", x.goal(2, 11), NOTHING);
        due("status", x.status(), -1);
        due("goal(2, 1)", x.goal(2, 1), NOTHING);
        due("status", x.status(), -2);
        due("goal(-1, 1)", x.goal(-1, 1), NOTHING);
        due("count(6)", x.count(6), 3);
        due("count(7)", x.count(7), 2);
        due("goal(0, 5)", x.goal(0, 5), 3);
    }

    private static void promise28() {
        at("promise 28");
        HillSchool x = hill(w(1, 2), w(), w());
        x.child(2);
        x.goal(2, 2);
        row(x, 0, 2, 0, 2, 0, 0, 2, 0);
        row(x, 2, 4, 0, 2, 0, 0, 2, 0);
        due("what 3", x.plan(0, 0, 3), NONE);
        due("what -1", x.plan(0, 0, -1), NONE);
        due("i -2", x.plan(0, -2, 0), NONE);
        due("sort 3", x.plan(3, NONE, 0), NONE);
        due("sort -1", x.plan(-1, NONE, 0), NONE);
        row(x, 1, 2, 0, 2, 0, 0, 2, 0);
        x.terms(2, 1);
        row(x, 1, NONE);
        x.expel(0, 1);
        row(x, 0, NONE);
        row(x, 1, NONE);
        row(x, 2, NONE);
        x.child(1);
        x.child(2);
        row(x, 0, 2, 0, 2, 2, 0, 2, 1);
        inForce(x, "tires 5 if child=1; tires 1 if child=2 and to=2; bars if from=0 and high=2 and to=2");
        row(x, 0, 3, 0, 1, 2, 0, 2, 1, 1, 2, 2);
        row(x, 2, 3, 0, 1, 2, 0, 2, 2, 1, 2, 2);
        x.goal(0, 3);
        row(x, 0, NONE);
        x.goal(0, NONE);
        x.goal(2, 0);
        row(x, 0, 0);
        row(x, 1, 0);
        row(x, 2, 0);
        promise28Sizes();
        promise28Chosen();
    }

    private static void promise28Sizes() {
        HillSchool stones = high(3, 3, 0);
        stones.child(1);
        due("6 stones", stones.plan(0, NONE, 0), NONE);
        stones.lift(0);
        due("5 stones", stones.plan(0, NONE, 0), 0);
        stones.column();
        due("4 columns", stones.plan(0, NONE, 0), 0);
        stones.column();
        due("5 columns", stones.plan(0, NONE, 0), NONE);
        HillSchool safe = high(5, 0);
        safe.child(1);
        safe.goal(0, 5);
        row(safe, 1, 0);
        safe.goal(0, 3);
        row(safe, 1, 2, 0, 1, 0, 0, 1, 0);
        safe.terms(2, 2);
        row(safe, 1, NONE);
        row(safe, 0, 2, 0, 1, 0, 0, 1, 0);
        HillSchool slid = high(4, 0);
        slid.child(1);
        slid.goal(0, 2);
        row(slid, 0, 2, 0, 1, 0, 0, 1, 0);
        slid.slide();
        row(slid, 0, 1, 0, 1, 0);
        HillSchool order = high(1, 3, 0);
        order.child(1);
        order.terms(2, 2);
        order.goal(0, 0);
        order.goal(2, 2);
        row(order, 0, 2, 0, 2, 0, 1, 2, 0);
        row(order, 1, 2, 1, 2, 0, 0, 2, 0);
    }

    /** Of rows that are as good the one of the lowest carryings. */
    private static void promise28Chosen() {
        HillSchool x = hill(w(1, 1), w(1, 1), w(), w());
        x.child(1);
        x.child(1);
        x.goal(0, 1);
        x.goal(1, 1);
        row(x, 0, 2, 0, 2, 0, 1, 2, 0);
        row(x, 2, 3, 0, 2, 0, 1, 2, 0);
        inForce(x, "tires 0 if child=1; tires 0 if to=3");
        row(x, 2, 0, 0, 2, 1, 1, 2, 1);
        x.force(NONE);
        inForce(x, "tires 0");
        row(x, 2, 0, 0, 2, 0, 1, 2, 0);
        x.terms(0, 1);
        inForce(x, "bars if term=1");
        row(x, 0, NONE);
        x.terms(0, 0);
        row(x, 0, 2, 0, 2, 0, 1, 2, 0);
        HillSchool five = hill(w(5, 4, 3, 2, 1), w(), w(), w());
        five.child(9);
        inForce(five, "bars if low>0 and weight<3 and to<3");
        five.goal(3, 5);
        row(five, 0, 5, 0, 3, 0, 0, 3, 0, 0, 3, 0, 0, 3, 0, 0, 3, 0);
    }

    private static void promise29() {
        at("promise 29");
        HillSchool x = hill(w(1, 2), w(3), w(3));
        int[] want = {1, 1, 1, 3, 2, 2, 3, 1, 1, 1, 0};
        for (int weight = 0; weight < want.length; weight++) {
            due("weighs(" + weight + ")", x.weighs(weight), want[weight]);
        }
        due("weighs(-1)", x.weighs(-1), NONE);
        due("weighs(3600)", x.weighs(3600), 0);
        due("weighs(3601)", x.weighs(3601), NONE);
        x.lift(0);
        due("weighs(9)", x.weighs(9), 0);
        due("weighs(7)", x.weighs(7), 1);
        HillSchool all = new HillSchool();
        for (int column = 0; column < 12; column++) {
            all.column();
            write(all, column, 30, 30, 30, 30, 30, 30, 30, 30, 30, 30);
            all.row();
        }
        due("all", all.weighs(3600), 1);
        due("all but one", all.weighs(3570), 120);
        due("all but six", all.weighs(3420), 1_000_000_000);
        due("half of all", all.weighs(1800), 1_000_000_000);
        due("five", all.weighs(150), 190_578_024);
        due("none", all.weighs(0), 1);
        due("no set", all.weighs(1801), 0);
    }

    private static void promise30() {
        at("promise 30");
        HillSchool x = new HillSchool();
        x.child(3);
        due("trips(0, 20)", x.trips(0, 20), 0);
        due("trips(0, 0)", x.trips(0, 0), 20);
        due("trips(0, 5)", x.trips(0, 5), 0);
        refused(x, "trips(0, 21)", 0, x.trips(0, 21), -1);
        refused(x, "trips(0, -1)", 1, x.trips(0, -1), -1);
        refused(x, "trips(7, 21)", 2, x.trips(7, 21), -1);
        refused(x, "trips(1, 3)", 3, x.trips(1, 3), -2);
        refused(x, "trips(-1, 3)", 4, x.trips(-1, 3), -2);
        due("fact(0, 2)", x.fact(0, 2), 5);
    }

    private static void promise31() {
        at("promise 31");
        HillSchool x = new HillSchool();
        found(x, 1, 0, 1, 0, 0, 0, NONE);
        found(x, 1, 1, 0, NONE, NONE, NONE, NONE);
        int[] trips = {1, 2, 3, 4, 20, 0};
        for (int child = 0; child < 6; child++) {
            x.child(9);
            x.trips(child, trips[child]);
        }
        found(x, 1, 30, 2, 31, 31, 0, 5);
        found(x, 1, 5, 4, 6, 0, 16, 0);
        found(x, 9, 45, 4, 6, 0, 16, 0);
        found(x, 2, 5, 0, NONE, NONE, NONE, NONE);
        found(x, 1, 1, 2, 1, 1, 30, 5);
        found(x, 1, 27, 4, 27, 24, 0, 0);
        found(x, 5, 0, 2, 0, 0, 31, 5);
        x.expel(4, 1);
        found(x, 1, 30, 2, 31, 31, 0, 5);
        due("ounces 0", x.culprits(0, 0, 0), NONE);
        due("ounces 10", x.culprits(10, 0, 0), NONE);
        due("more -1", x.culprits(1, -1, 0), NONE);
        due("more 1000", x.culprits(1, 1000, 0), NONE);
        due("more 999", x.culprits(1, 999, 0), 0);
        due("what 5", x.culprits(1, 5, 5), NONE);
        due("what -1", x.culprits(1, 5, -1), NONE);
        HillSchool y = new HillSchool();
        int[] few = {3, 1, 2, 2};
        for (int child = 0; child < 4; child++) {
            y.child(9);
            y.trips(child, few[child]);
        }
        found(y, 1, 3, 3, 1, 0, 0, 0);
        found(y, 1, 5, 3, 5, 0, 0, 0);
        found(y, 1, 8, 1, 15, 15, 0, 0);
    }

    private static void promise32() {
        at("promise 32");
        HillSchool x = hill(w(1, 1, 1), w(), w());
        outcome(x, 1, 0, 0, NONE, NONE);
        x.child(1);
        outcome(x, 1, 0, 0, 0, 1);
        x.parish(0);
        outcome(x, 1, 0, 2, 0, 1);
        outcome(x, 1, 1, 2, 0, 1);
        outcome(x, 2, 0, 1, 0, 1);
        outcome(x, 2, 1, 3, 0, 1);
        x.parish(2);
        outcome(x, 1, 0, 3, 0, 2);
        outcome(x, 1, 1, 2, 0, 1);
        outcome(x, 4, 0, 2, 0, 1);
        outcome(x, 4, 1, 4, 0, 1);
        heights(x, 3, 0, 0);
        due("turns 0", x.duel(0, 0, 0), NONE);
        due("turns 5", x.duel(5, 0, 0), NONE);
        due("first 2", x.duel(1, 2, 0), NONE);
        due("first -1", x.duel(1, -1, 0), NONE);
        x.column();
        outcome(x, 1, 1, 2, 0, 1);
        x.column();
        due("5 columns", x.duel(1, 0, 0), NONE);
        HillSchool full = high(10, 10, 10, 10);
        full.child(1);
        full.parish(1);
        outcome(full, 4, 1, 10, NONE, NONE);
        full.lift(3);
        outcome(full, 1, 0, 10, 0, 3);
        outcome(full, 1, 1, 9, 1, 3);
        HillSchool none = new HillSchool();
        outcome(none, 2, 0, 0, NONE, NONE);
        HillSchool turns = hill(w(1), w(), w());
        turns.child(1);
        turns.parish(0);
        inForce(turns, "bars if from=1");
        outcome(turns, 1, 1, 0, 0, 1);
        outcome(turns, 2, 0, 0, 0, 1);
        outcome(turns, 2, 1, 0, 0, 1);
        outcome(turns, 3, 1, 0, 0, 1);
    }

    private static void promise33() {
        at("promise 33");
        HillSchool x = hill(w(), w(5), w(5, 5, 5), w(9, 7, 7, 1), w(1, 2, 3, 4), w(3, 5, 3, 5), w(5, 1, 4, 2, 3),
                w(1, 2, 1, 2, 1, 2, 1, 2, 1, 2), w(1, 30, 29, 28, 27, 26, 25, 24, 23, 22), w(2, 1, 3, 3, 2, 4, 1, 1));
        int[] want = {0, 1, 1, 1, 4, 3, 3, 6, 2, 3};
        for (int column = 0; column < want.length; column++) {
            due("layers(" + column + ")", x.layers(column), want[column]);
        }
        due("lift", x.lift(5), 5);
        due("layers without the top one", x.layers(5), 2);
        due("layers(10)", x.layers(10), NONE);
        due("layers(-1)", x.layers(-1), NONE);
    }

    private static void promise34() {
        at("promise 34");
        HillSchool none = new HillSchool();
        due("without columns", none.rain(7, 3), 0);
        due("rained", none.rained(0, 0), NONE);
        HillSchool x = hill(w(4, 2));
        due("rain(0, 1)", x.rain(0, 1), 1);
        due("rained(0, 0)", x.rained(0, 0), 1);
        due("rained(0, 1)", x.rained(0, 1), 4);
        due("rain(1000000, 40)", x.rain(1_000_000, 40), 2);
        due("on paper", x.weight(0), 6);
        refused(x, "rain(-1, 1)", 0, x.rain(-1, 1), -1);
        refused(x, "rain(1000001, 1)", 1, x.rain(1_000_001, 1), -1);
        refused(x, "rain(0, 0)", 2, x.rain(0, 0), -1);
        refused(x, "rain(0, 41)", 3, x.rain(0, 41), -1);
        due("the latest", x.rained(0, 0), 0);
        // 12345 is 0 of 3; then 12345 * 1103 + 12345 = 13628880, less 13 times 1000003 628841: 2 of 3.
        HillSchool y = hill(w(1, 2), w(3), w(7));
        due("rain(0, 1)", y.rain(0, 1), 0);
        drops(y, 1, 1, 2, 5, 1, 7);
        due("rain(0, 2)", y.rain(0, 2), 1);
        drops(y, 1, 1, 2, 5, 0, 0);
        HillSchool full = hill(w(3), w(1, 1, 1, 1, 1, 1, 1, 1, 1, 1), w(1, 1, 1, 1, 1, 1, 1, 1, 1, 1));
        full.terms(2, 9);
        due("the next one is full", full.rain(0, 1), 1);
        drops(full, 1, 1, 9, 9, 10, 10);
        HillSchool slides = hill(w(5), w(2, 2, 2, 2, 2, 2), w());
        due("then slides", slides.rain(0, 1), 0);
        drops(slides, 2, 7, 4, 8, 1, 2);
    }

    private static void promise35() {
        at("promise 35");
        HillSchool x = hill(w(4, 2), w(6));
        due("ahead of any", x.rained(0, 0), NONE);
        x.rain(-1, 1);
        due("ahead of any", x.rained(0, 0), NONE);
        x.rain(0, 1);
        int had = x.rained(1, 1);
        due("rained(0, 2)", x.rained(0, 2), NONE);
        due("rained(0, -1)", x.rained(0, -1), NONE);
        due("rained(2, 0)", x.rained(2, 0), NONE);
        due("rained(-1, 0)", x.rained(-1, 0), NONE);
        x.stone(1, 30);
        x.column();
        due("of the latest", x.rained(1, 1), had);
        due("of the latest", x.rained(2, 0), NONE);
    }

    private static void promise36() {
        at("promise 36");
        HillSchool x = hill(w(4));
        due("image(0)", x.image(0), 0);
        x.stone(0, 5);
        due("image(1)", x.image(1), 0);
        refused(x, "image(2)", 0, x.image(2), -1);
        refused(x, "image(-1)", 1, x.image(-1), -1);
        x.lift(0);
        x.lift(0);
        x.back(1);
        heights(x, 2);
        x.back(0);
        heights(x, 1);
        x.stone(0, 6);
        x.stone(0, 6);
        x.image(0);
        x.back(1);
        x.back(0);
        heights(x, 3);
        due("the new one", x.of(0, 1), 6);
    }

    private static void promise37() {
        at("promise 37");
        HillSchool x = hill(w(4, 7), w(1));
        refused(x, "back(0)", 0, x.back(0), -2);
        refused(x, "back(2)", 1, x.back(2), -1);
        refused(x, "back(-1)", 2, x.back(-1), -1);
        x.child(20);
        x.trips(0, 6);
        x.parish(1);
        x.terms(0, 5);
        x.terms(1, 2);
        x.goal(1, 2);
        inForce(x, "tires 8");
        law(x, "tires 9");
        x.image(1);
        refused(x, "back(0)", 3, x.back(0), -2);
        x.lift(0);
        x.stone(0, 3);
        x.column();
        x.child(30);
        x.expel(0, 1);
        x.trips(0, 2);
        x.parish(0);
        x.terms(0, 6);
        x.terms(1, 3);
        x.goal(1, 3);
        x.force(1);
        law(x, "bars");
        law(x, "tires x");
        write(x, 1, 0, 0, 0);
        x.row();
        x.rain(0, 1);
        write(x, 1, 0);
        x.stone(0, 99);
        int wrongNumbers = x.count(6);
        due("back(1)", x.back(1), 0);
        due("status", x.status(), 0);
        heights(x, 2, 1);
        due("of(0, 1)", x.of(0, 1), 7);
        int[] counts = {2, 3, 1, 1, 2, 2, wrongNumbers, 2, 0, 0, 1, 0, 5, 2, 3, 1};
        for (int what = 0; what < counts.length; what++) {
            due("count(" + what + ")", x.count(what), counts[what]);
        }
        due("fact(0, 1)", x.fact(0, 1), 0);
        due("fact(0, 2)", x.fact(0, 2), 6);
        due("shade(0)", x.shade(0), 1);
        due("tires", x.tires(0, 0, 1), 8);
        due("fault", x.fault(), 6);
        due("gravel", x.gravel(), 3);
        due("rained(2, 0)", x.rained(2, 0), 0);
        due("plan", x.plan(0, NONE, 0), 1);
        due("goal", x.goal(1, NONE), 2);
        x.end(0);
        due("law", law(x, "tires 3"), 2);
        due("column", x.column(), 2);
        due("a new column has no stones", x.of(2, NONE), 0);
        due("nor a goal", x.goal(2, 1), NONE);
        due("a new child", x.child(3), 1);
        due("has no trips", x.fact(1, 2), 0);
        x.force(2);
        due("tires", x.tires(0, 0, 1), 3);
        x.back(1);
        due("images stay", x.tires(0, 0, 1), 8);
        due("images stay", x.goal(1, NONE), 2);
        promise37Replaced();
    }

    /** What was made anew behind an image is as it was behind the other. */
    private static void promise37Replaced() {
        HillSchool x = new HillSchool();
        x.image(0);
        x.column();
        x.column();
        x.column();
        x.stone(0, 4);
        x.child(20);
        x.expel(0, 1);
        x.trips(0, 9);
        x.parish(0);
        law(x, "tires 3; tires 8 if high>0");
        law(x, "tires 7");
        x.force(0);
        x.goal(0, 6);
        x.terms(3, 7);
        x.image(1);
        x.back(0);
        heights(x);
        due("count(11)", x.count(11), NONE);
        due("count(15)", x.count(15), 1);
        due("column", x.column(), 0);
        due("no stones", x.of(0, NONE), 0);
        due("no goal", x.goal(0, 2), NONE);
        x.column();
        x.stone(0, 5);
        x.stone(0, 6);
        due("child", x.child(30), 0);
        due("not expelled", x.fact(0, 1), 0);
        due("no trips", x.fact(0, 2), 0);
        x.parish(1);
        inForce(x, "tires 9");
        due("tires", x.tires(0, 0, 1), 9);
        inForce(x, "tires 6; tires 5 if high>0");
        due("tires", x.tires(0, 0, 1), 5);
        x.back(1);
        heights(x, 1, 0, 0);
        due("of(0, 0)", x.of(0, 0), 4);
        due("fact(0, 0)", x.fact(0, 0), 20);
        due("fact(0, 1)", x.fact(0, 1), 1);
        due("fact(0, 2)", x.fact(0, 2), 9);
        due("shade(0)", x.shade(0), 1);
        due("goal(0, NONE)", x.goal(0, NONE), 6);
        x.expel(0, 0);
        due("tires", x.tires(0, 0, 1), 8);
        x.force(1);
        due("tires", x.tires(0, 0, 1), 7);
        due("count(15)", x.count(15), 7);
    }

    private static void promise38() {
        at("promise 38");
        HillSchool x = hill(w(4, 7), w(1), w());
        x.child(3);
        x.child(3);
        x.parish(0);
        law(x, "bars");
        law(x, "bars");
        law(x, "bars");
        x.force(1);
        write(x, 1, 2, 3, 4, 5);
        x.terms(0, 7);
        x.terms(1, 8);
        x.terms(2, 9);
        x.terms(3, 10);
        x.stone(0, 0);
        x.stone(9, 1);
        x.stone(9, 1);
        x.lift(2);
        x.lift(2);
        x.lift(2);
        for (int i = 0; i < 8; i++) {
            x.child(9);
        }
        law(x, "x");
        x.row();
        x.row();
        x.row();
        x.row();
        write(x, 1, 2, 3, 4, 5);
        int[] want = {3, 3, 6, 1, 3, 5, 1, 2, 3, 4, 5, 1, 7, 8, 9, 10};
        for (int what = 0; what < want.length; what++) {
            due("count(" + what + ")", x.count(what), want[what]);
        }
        due("count(16)", x.count(16), NONE);
        due("count(-1)", x.count(-1), NONE);
        due("count(max)", x.count(Integer.MAX_VALUE), NONE);
        due("count(min)", x.count(Integer.MIN_VALUE), NONE);
    }

    private static void promise39() {
        at("promise 39");
        HillSchool x = hill(w(4, 7), w(1));
        due("status", x.status(), 0);
        x.stone(0, 0);
        due("status", x.status(), -1);
        due("status", x.status(), -1);
        x.of(9, 9);
        x.weight(9);
        x.fact(0, 0);
        x.feed(0, 0, 0, 0, 0);
        x.end(0);
        x.gravel();
        x.fault();
        x.can(0, 0, 1);
        x.tires(0, 0, 1);
        x.steep();
        x.slide();
        x.shade(0);
        x.gains(0, 0, 0, 1);
        x.plan(0, NONE, 0);
        x.weighs(1);
        x.culprits(1, 1, 1);
        x.duel(1, 0, 0);
        x.layers(0);
        x.rained(0, 0);
        x.count(0);
        due("calls that are not told of", x.status(), -1);
        x.terms(3, 0);
        for (int call = 0; call < 18; call++) {
            x.stone(0, 0);
            due("call " + call, any(x, call) <= -2 ? 1 : 0, 0);
            due("status of call " + call, x.status(), 0);
        }
    }

    /** A call of each sort that the status tells of; it is not refused. */
    private static int any(HillSchool x, int call) {
        switch (call) {
            case 0: return x.column();
            case 1: return x.stone(0, 1);
            case 2: return x.lift(0);
            case 3: return x.child(9);
            case 4: return x.expel(0, 0);
            case 5: return x.parish(0);
            case 6: return x.terms(0, 0);
            case 7: write(x, 0, 1); return x.row();
            case 8: return law(x, "tires 1");
            case 9: return x.force(0);
            case 10: return x.carry(0, 0, 1);
            case 11: return x.exchange(0, 0, 1, 1);
            case 12: return x.goal(0, 0);
            case 13: return x.trips(0, 0);
            case 14: return x.rain(0, 1);
            case 15: return x.image(0);
            case 16: return x.back(0);
            default: return x.force(NONE);
        }
    }

    public static void main(String[] args) {
        promise1();
        promise2();
        promise3();
        promise4();
        promise5();
        promise6();
        promise7();
        promise8();
        promise9();
        promise10();
        promise11();
        promise12();
        promise13();
        promise14();
        promise15();
        promise16();
        promise17();
        promise18();
        promise19();
        promise20();
        promise21();
        promise22();
        promise23();
        promise24();
        promise25();
        promise26();
        promise27();
        promise28();
        promise29();
        promise30();
        promise31();
        promise32();
        promise33();
        promise34();
        promise35();
        promise36();
        promise37();
        promise38();
        promise39();
        close("all promises are kept");
    }
}
