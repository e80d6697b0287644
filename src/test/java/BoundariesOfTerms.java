import java.io.IOException;
import java.util.function.ToIntFunction;

/** Each sentence of the Terms, with a test of the boundaries that it names. */
public final class BoundariesOfTerms extends Sentences {
    private static void term(int what, int least, int most, int first) {
        HillSchool x = new HillSchool();
        due("at first", x.count(12 + what), first);
        refused(x, "too low", 0, x.terms(what, least - 1), -1);
        refused(x, "too high", 1, x.terms(what, most + 1), -1);
        refused(x, "far too low", 2, x.terms(what, Integer.MIN_VALUE), -1);
        refused(x, "far too high", 3, x.terms(what, Integer.MAX_VALUE), -1);
        due("the least", x.terms(what, least), first);
        due("the most", x.terms(what, most), least);
        due("stays", x.count(12 + what), most);
    }

    private static void columns() {
        sentence("I", "COLUMNS 0 .. 11 (12 at most)", () -> {
            HillSchool x = new HillSchool();
            for (int column = 0; column < 12; column++) {
                due("column()", x.column(), column);
            }
            refused(x, "the 13th", 0, x.column(), -5);
            due("count(0)", x.count(0), 12);
            due("of(11, NONE)", x.of(11, NONE), 0);
            due("of(12, NONE)", x.of(12, NONE), NONE);
        });
        sentence("I", "in a row", () -> {
            HillSchool x = high(0, 0, 0, 1, 1, 1, 2, 2, 2, 3, 3, 4);
            due("the last is not beside the first", x.steep(), NONE);
            HillSchool y = high(4, 3, 3, 2, 2, 2, 1, 1, 1, 0, 0, 0);
            due("the first is not beside the last", y.steep(), NONE);
        });
        sentence("I", "each of STONES, 10 at most, from the ground up", () -> {
            HillSchool x = hill(w(), w(1));
            for (int i = 1; i <= 10; i++) {
                due("stone", x.stone(0, 11 - i), i);
            }
            refused(x, "the 11th", 0, x.stone(0, 1), -5);
            stones(x, 0, 10, 9, 8, 7, 6, 5, 4, 3, 2, 1);
            due("of(0, 10)", x.of(0, 10), NONE);
            write(x, 0, 5);
            due("row", x.row(), 0);
            due("gravel", x.gravel(), 1);
            x.child(9);
            due("can", x.can(0, 1, 0), 0);
        });
        sentence("I", "WEIGHT 1 .. 30", () -> {
            HillSchool x = hill(w());
            refused(x, "0", 0, x.stone(0, 0), -1);
            refused(x, "31", 1, x.stone(0, 31), -1);
            refused(x, "-1", 2, x.stone(0, -1), -1);
            refused(x, "min", 3, x.stone(0, Integer.MIN_VALUE), -1);
            refused(x, "max", 4, x.stone(0, Integer.MAX_VALUE), -1);
            due("1", x.stone(0, 1), 1);
            due("30", x.stone(0, 30), 2);
            stones(x, 0, 1, 30);
        });
    }

    private static void people() {
        sentence("I", "CHILDREN 0 .. 5 (6 at most)", () -> {
            HillSchool x = new HillSchool();
            for (int child = 0; child < 6; child++) {
                due("child", x.child(10 + child), child);
            }
            refused(x, "the 7th", 0, x.child(10), -5);
            due("fact(5, 0)", x.fact(5, 0), 15);
            due("fact(6, 0)", x.fact(6, 0), NONE);
        });
        sentence("I", "STRENGTH 1 .. 60", () -> {
            HillSchool x = new HillSchool();
            refused(x, "0", 0, x.child(0), -1);
            refused(x, "61", 1, x.child(61), -1);
            refused(x, "-1", 2, x.child(-1), -1);
            due("1", x.child(1), 0);
            due("60", x.child(60), 1);
            due("fact(0, 0)", x.fact(0, 0), 1);
            due("fact(1, 0)", x.fact(1, 0), 60);
        });
        sentence("I", "EXPELLED or not (at first)", () -> {
            HillSchool x = new HillSchool();
            x.child(5);
            due("at first", x.fact(0, 1), 0);
            due("was", x.expel(0, 1), 0);
            due("now", x.fact(0, 1), 1);
            x.child(5);
            due("the next one", x.fact(1, 1), 0);
        });
        sentence("I", "PARISHES 0 .. 5 (6 at most)", () -> {
            HillSchool x = hill(w(1));
            for (int parish = 0; parish < 6; parish++) {
                due("parish", x.parish(0), parish);
            }
            refused(x, "the 7th", 0, x.parish(0), -5);
            due("shade(5)", x.shade(5), 1);
            due("shade(6)", x.shade(6), NONE);
        });
        sentence("I", "each at a COLUMN", () -> {
            HillSchool x = hill(w(1, 1, 1), w());
            refused(x, "2", 0, x.parish(2), -2);
            refused(x, "-1", 1, x.parish(-1), -2);
            x.parish(1);
            x.parish(0);
            due("shade(0)", x.shade(0), 2);
            due("shade(1)", x.shade(1), 3);
        });
        sentence("I", "TERMS", () -> {
            HillSchool x = new HillSchool();
            refused(x, "terms(4, 1)", 0, x.terms(4, 1), -1);
            refused(x, "terms(-1, 1)", 1, x.terms(-1, 1), -1);
            refused(x, "terms(max, 1)", 2, x.terms(Integer.MAX_VALUE, 1), -1);
            refused(x, "terms(min, 1)", 3, x.terms(Integer.MIN_VALUE, 1), -1);
        });
        sentence("I", "0 TERM 0 .. 99 (0 at first)", () -> term(0, 0, 99, 0));
        sentence("I", "1 SLOPE 1 .. 9 (1)", () -> term(1, 1, 9, 1));
        sentence("I", "2 STEEP 1 .. 9 (3)", () -> term(2, 1, 9, 3));
        sentence("I", "3 OUNCE 0 .. 30 (1)", () -> term(3, 0, 30, 1));
    }

    /** A call that is refused on the full hill: all stays but that it is counted. */
    private static void stays(String call, ToIntFunction<HillSchool> made, int by) {
        HillSchool x = full();
        String before = kept(x) + unkept(x);
        int had = refusals(x);
        int[] counts = {x.count(6), x.count(7), x.count(8), x.count(9), x.count(10)};
        int[] numbers = {-1, -2, -3, -5, -6};
        due(call, made.applyAsInt(x), call.startsWith("goal") ? NOTHING : by);
        due(call + ": status", x.status(), by);
        due(call + ": refusals", refusals(x), had + 1);
        for (int k = 0; k < 5; k++) {
            due(call + ": count(" + (6 + k) + ")", x.count(6 + k), counts[k] + (numbers[k] == by ? 1 : 0));
        }
        same(call + ": what stands", kept(x) + unkept(x), before);
    }

    private static void refusedBy() {
        sentence("I", "REFUSED by", () -> {
            HillSchool x = full();
            due("the hill", x.count(0) * 1000 + x.count(2) * 100 + x.count(3) * 10 + x.count(4), 12666);
            due("what is asked is not refused", x.of(99, 99), NONE);
            due("nor this", x.shade(99), NONE);
            due("nor this", x.feed(0, 0, 0, 0, 0), 23);
            due("nor this", x.end(99), NONE);
            due("status of the latest that tells", x.status(), 0);
            due("refusals: the text", refusals(x), 1);
        });
        sentence("I", "-1 a number that can't be", () -> {
            stays("stone(1, 0)", x -> x.stone(1, 0), -1);
            stays("stone(1, 31)", x -> x.stone(1, 31), -1);
            stays("child(0)", x -> x.child(0), -1);
            stays("child(61)", x -> x.child(61), -1);
            stays("expel(0, 2)", x -> x.expel(0, 2), -1);
            stays("expel(5, -1)", x -> x.expel(5, -1), -1);
            stays("terms(0, 100)", x -> x.terms(0, 100), -1);
            stays("terms(1, 0)", x -> x.terms(1, 0), -1);
            stays("terms(4, 1)", x -> x.terms(4, 1), -1);
            stays("goal(1, 11)", x -> x.goal(1, 11), -1);
            stays("goal(1, -2)", x -> x.goal(1, -2), -1);
            stays("trips(0, 21)", x -> x.trips(0, 21), -1);
            stays("trips(0, -1)", x -> x.trips(0, -1), -1);
            stays("rain(-1, 1)", x -> x.rain(-1, 1), -1);
            stays("rain(1000001, 1)", x -> x.rain(1_000_001, 1), -1);
            stays("rain(1, 0)", x -> x.rain(1, 0), -1);
            stays("rain(1, 41)", x -> x.rain(1, 41), -1);
            stays("image(2)", x -> x.image(2), -1);
            stays("image(-1)", x -> x.image(-1), -1);
            stays("back(2)", x -> x.back(2), -1);
            stays("back(-1)", x -> x.back(-1), -1);
        });
        sentence("I", "-2 there is no such COLUMN, CHILD, PARISH, LAW, IMAGE", () -> {
            stays("stone(12, 1)", x -> x.stone(12, 1), -2);
            stays("stone(-1, 1)", x -> x.stone(-1, 1), -2);
            stays("lift(12)", x -> x.lift(12), -2);
            stays("lift(-1)", x -> x.lift(-1), -2);
            stays("expel(6, 1)", x -> x.expel(6, 1), -2);
            stays("expel(-1, 0)", x -> x.expel(-1, 0), -2);
            stays("parish(12)", x -> x.parish(12), -2);
            stays("parish(-1)", x -> x.parish(-1), -2);
            stays("force(6)", x -> x.force(6), -2);
            stays("force(-2)", x -> x.force(-2), -2);
            stays("carry(6, 1, 2)", x -> x.carry(6, 1, 2), -2);
            stays("carry(-1, 1, 2)", x -> x.carry(-1, 1, 2), -2);
            stays("carry(1, 12, 2)", x -> x.carry(1, 12, 2), -2);
            stays("carry(1, 1, 12)", x -> x.carry(1, 1, 12), -2);
            stays("exchange(6, 1, 2, 0)", x -> x.exchange(6, 1, 2, 0), -2);
            stays("exchange(1, -1, 2, 0)", x -> x.exchange(1, -1, 2, 0), -2);
            stays("exchange(1, 1, 12, 0)", x -> x.exchange(1, 1, 12, 0), -2);
            stays("exchange(1, 1, 2, 12)", x -> x.exchange(1, 1, 2, 12), -2);
            stays("goal(12, 3)", x -> x.goal(12, 3), -2);
            stays("goal(-1, 3)", x -> x.goal(-1, 3), -2);
            stays("trips(6, 1)", x -> x.trips(6, 1), -2);
            stays("trips(-1, 1)", x -> x.trips(-1, 1), -2);
            stays("back(1)", x -> x.back(1), -2);
        });
        sentence("I", "-3 it can't be by what stands", () -> {
            stays("lift(3)", x -> x.lift(3), -3);
            stays("carry of none", x -> x.carry(1, 3, 2), -3);
            stays("carry to the full one", x -> x.carry(1, 1, 0), -3);
            stays("carry to the same one", x -> x.carry(1, 1, 1), -3);
            stays("carry by one expelled", x -> x.carry(5, 1, 2), -3);
            stays("carry by one too weak", x -> x.carry(0, 1, 2), -3);
            stays("carry that is barred", x -> x.carry(1, 1, 3), -3);
            stays("exchange whose first can't be", x -> x.exchange(1, 3, 2, 1), -3);
            stays("exchange whose second can't be", x -> x.exchange(1, 1, 4, 5), -3);
            stays("exchange not unlike enough", x -> x.exchange(1, 1, 4, 2), -3);
        });
        sentence("I", "-5 no room", () -> {
            stays("column()", x -> x.column(), -5);
            stays("stone(0, 1)", x -> x.stone(0, 1), -5);
            stays("child(9)", x -> x.child(9), -5);
            stays("parish(0)", x -> x.parish(0), -5);
            HillSchool x = full();
            String before = kept(x);
            refused(x, "law()", 1, x.law(), -5);
            due("count(9)", x.count(9), 1);
            same("what stands", kept(x), before);
        });
        sentence("I", "-6 a TEXT, a ROW that can't be", () -> {
            HillSchool x = full();
            x.back(0);
            x.end(0);
            String before = kept(x);
            refused(x, "row()", 1, x.row(), -6);
            write(x, 12, 1);
            refused(x, "row()", 2, x.row(), -6);
            same("what stands", kept(x), before);
            HillSchool y = hill(w(1));
            before = kept(y);
            refused(y, "law()", 0, y.law(), -6);
            refused(y, "law()", 1, law(y, "bars bars"), -6);
            same("what stands", kept(y), before);
            due("count(10)", y.count(10), 2);
        });
        sentence("I", "The first of these in that order.", () -> {
            stays("stone: -1, -2", x -> x.stone(12, 31), -1);
            stays("stone: -1, -5", x -> x.stone(0, 31), -1);
            stays("child: -1, -5", x -> x.child(61), -1);
            stays("expel: -1, -2", x -> x.expel(6, 2), -1);
            stays("goal: -1, -2", x -> x.goal(12, 11), -1);
            stays("trips: -1, -2", x -> x.trips(6, 21), -1);
            stays("parish: -2, -5", x -> x.parish(12), -2);
            stays("carry: -2, -3", x -> x.carry(6, 3, 3), -2);
            stays("carry: -2, -3", x -> x.carry(5, 3, 12), -2);
            stays("exchange: -2, -3", x -> x.exchange(5, 3, 3, 12), -2);
            stays("back: -1 ahead of -2", x -> x.back(3), -1);
            HillSchool x = full();
            due("law: -5, -6", law(x, "x"), -5);
        });
    }

    private static void tape() {
        sentence("II", "LAWS are TEXTS, 6 at most", () -> {
            HillSchool x = new HillSchool();
            for (int law = 0; law < 6; law++) {
                due("law", law(x, "tires " + law), law);
            }
            refused(x, "the 7th", 0, law(x, "tires 6"), -5);
            due("force(5)", x.force(5), NONE);
            refused(x, "force(6)", 1, x.force(6), -2);
        });
        sentence("II", "on a TAPE of at most 400 bytes", () -> {
            HillSchool x = hill(w(1), w());
            x.child(1);
            for (int n = 1; n <= 20; n++) {
                due("feed", x.feed(0, 0, 0, 0, 0), 20 * n);
            }
            due("feed", x.feed(0, 0, 0, 0, 0), NONE);
            x.end(0);
            String text = "tires " + times(" ", 393) + "7";
            due("400 bytes", text.length(), 400);
            inForce(x, text);
            due("the last byte is read", x.tires(0, 0, 1), 7);
        });
        sentence("II", "one is in FORCE (NONE at first: no CLAUSE)", () -> {
            HillSchool x = hill(w(1), w());
            x.child(1);
            due("at first", x.count(11), NONE);
            law(x, "bars");
            due("not by itself", x.count(11), NONE);
            due("can", x.can(0, 0, 1), 1);
            x.force(0);
            due("can", x.can(0, 0, 1), 0);
            law(x, "tires 3");
            due("the one in force stays", x.can(0, 0, 1), 0);
            x.force(1);
            due("one alone", x.tires(0, 0, 1), 3);
            x.force(NONE);
            due("no clause", x.tires(0, 0, 1), 1);
        });
    }

    private static void tokens() {
        sentence("II", "TOKENS: longest rows of letters a .. z, of digits", () -> {
            sound("tires1if1=1or2=2and3=3");
            faulty("barsif 1=1", 0);
            faulty("barsbars", 0);
            faulty("bar", 0);
            faulty("bars if 1=1 ornot 1=1", 12);
            faulty("bars if not1=1 nota 1=1", 15);
            faulty("tires tofrom", 6);
            faulty("tires 10001", 6);
            sound("tires 1000");
            for (int sign = 0; sign < 256; sign++) {
                boolean letter = sign >= 'a' && sign <= 'z';
                boolean digit = sign >= '0' && sign <= '9';
                if (letter) {
                    faulty("bars" + (char) sign, 0);
                    faulty((char) sign + "bars", 0);
                } else if (digit) {
                    sound("tires 1" + (char) sign);
                    faulty("bars" + (char) sign, 4);
                }
            }
        });
        sentence("II", "single other bytes", () -> {
            for (int sign = 0; sign < 256; sign++) {
                boolean row = sign >= 'a' && sign <= 'z' || sign >= '0' && sign <= '9';
                if (row || sign == ' ') {
                    continue;
                }
                faulty("bars" + (char) sign, sign == ';' ? 5 : 4);
                faulty("tires 1" + (char) sign, ";+-*/".indexOf(sign) >= 0 ? 8 : 7);
                faulty((char) sign + "bars", 0);
            }
            faulty("bars if 1<<1", 10);
            faulty("bars;;bars", 5);
        });
        sentence("II", "any blanks (32) between", () -> {
            sound("bars if not(1=1)");
            sound("   bars   if   not   (   1   =   1   )   ");
            faulty("tires 1 0", 8);
            faulty("ti res 1", 0);
            faulty("bars\u001fif 1=1", 4);
            faulty("bars!if 1=1", 4);
            faulty("bars\u00a0if 1=1", 4);
        });
    }

    private static void grammar() {
        sentence("II", "CLAUSE {\";\" CLAUSE}, 12 at most (FAULT at the 13th's first TOKEN)", () -> {
            sound("bars");
            sound("bars" + times(";bars", 11));
            faulty("bars" + times(";bars", 12), 60);
            faulty("bars" + times(";bars", 11) + "  ;  tires 1", 64);
            faulty("bars" + times(";bars", 11) + "; 7", 61);
            faulty("bars" + times(";bars", 11) + ";", 60);
            faulty("bars" + times(";bars", 11) + " bars", 60);
            faulty("bars;", 5);
            faulty(";bars", 0);
            HillSchool x = new HillSchool();
            for (int law = 0; law < 3; law++) {
                due("13", law(x, "bars" + times(";bars", 12)), -6);
                due("12 of the next text", law(x, "bars" + times(";bars", 11)), law);
            }
        });
        sentence("II", "CLAUSE: (\"tires\" SUM | \"bars\") [\"if\" TEST]", () -> {
            faulty("", 0);
            faulty("if 1=1", 0);
            faulty("tires", 5);
            faulty("tires if 1=1", 6);
            faulty("bars 1", 5);
            faulty("bars tires 1", 5);
            faulty("bars if", 7);
            faulty("tires 1 if", 10);
            faulty("tires 1 if 1", 12);
            faulty("tires 1 if 1=1 if 1=1", 15);
            sound("tires 1");
            sound("tires 1 if 1=1");
            sound("bars if 1=1");
        });
        sentence("II", "TEST: BOTH {\"or\" BOTH}", () -> {
            faulty("bars if or 1=1", 8);
            faulty("bars if 1=1 or", 14);
            faulty("bars if 1=1 or or 1=1", 15);
            so("1=2 or 2=2", true);
            so("1=2 or 2=3 or 3=4", false);
            so("1=1 or 1=1 and 1=2", true);
        });
        sentence("II", "BOTH: PLAIN {\"and\" PLAIN}", () -> {
            faulty("bars if and 1=1", 8);
            faulty("bars if 1=1 and", 15);
            faulty("bars if 1=1 and or 1=1", 16);
            so("1=1 and 2=2 and 3=3", true);
            so("1=1 and 2=2 and 3=4", false);
            so("1=2 and 1=1 or 1=1", true);
        });
        sentence("II", "PLAIN: \"not\" PLAIN | \"(\" TEST \")\" | SUM (\"<\" | \">\" | \"=\") SUM", () -> {
            faulty("bars if not", 11);
            faulty("bars if ()", 9);
            faulty("bars if (1=1", 12);
            faulty("bars if (1=1]", 12);
            faulty("bars if (1)=1", 10);
            faulty("bars if 1", 9);
            faulty("bars if 1=", 10);
            faulty("bars if =1", 8);
            faulty("bars if 1==1", 10);
            faulty("bars if 1=1=1", 11);
            faulty("bars if 1=not 1", 10);
            sound("bars if " + times("not ", 97) + "1=1");
            faulty("bars if " + times("not ", 98), 400);
            so("not 1=2 and 1=2", false);
            so("not (1=2 and 1=2)", true);
            so("1<2", true);
            so("2<2", false);
            so("3<2", false);
            so("1>2", false);
            so("2>2", false);
            so("3>2", true);
            so("1=2", false);
            so("2=2", true);
            so(times("not ", 40) + "1=1", true);
            so(times("not ", 41) + "1=1", false);
        });
        sentence("II", "SUM: TERM {(\"+\" | \"-\") TERM}", () -> {
            faulty("tires +1", 6);
            faulty("tires -1", 6);
            faulty("tires 1+", 8);
            faulty("tires 1--1", 8);
            due("from the left", tiresBy("tires 30-10-5+2"), 17);
            due("behind * and /", tiresBy("tires 30-2*3+8/4"), 26);
        });
        sentence("II", "TERM: PART {(\"*\" | \"/\") PART}", () -> {
            faulty("tires *1", 6);
            faulty("tires 1*", 8);
            faulty("tires 1//2", 8);
            due("from the left", tiresBy("tires 100/5*2/8"), 5);
            due("not from the right", tiresBy("tires 7/2*2"), 6);
        });
    }

    private static void parts() {
        sentence("II", "PART: NUMBER (to 1,000)", () -> {
            sound("tires 0");
            sound("tires 1000");
            faulty("tires 1001", 6);
            faulty("tires 9999", 6);
            faulty("tires 1+1001", 8);
            faulty("tires 2147483648", 6);
            faulty("tires 4294967296", 6);
            faulty("tires 4294967297", 6);
            faulty("tires 18446744073709551616", 6);
            faulty("tires 18446744073709551617", 6);
            faulty("tires " + times("9", 394), 6);
            sound("tires " + times("0", 390) + "1000");
            faulty("tires " + times("0", 390) + "1001", 6);
            due("leading noughts", tiresBy("tires 00077"), 77);
            due("1000", tiresBy("tires 1000-901"), 99);
        });
        sentence("II", "| \"[\" SUM \"]\"", () -> {
            faulty("tires []", 7);
            faulty("tires [1", 8);
            faulty("tires [1)", 8);
            faulty("tires 1]", 7);
            faulty("tires (1)", 6);
            faulty("bars if [1=1]", 10);
            due("brackets", tiresBy("tires [2+3]*[10-[2*2]]"), 30);
        });
        sentence("II", "| \"child\" | \"strength\" | \"weight\" | \"from\" | \"to\" | \"high\" | \"low\" | \"term\"", () -> {
            String[] words = {"child", "strength", "weight", "from", "to", "high", "low", "term"};
            int[] values = {2, 20, 7, 1, 3, 3, 2, 6};
            for (int k = 0; k < words.length; k++) {
                due(words[k], tiresBy("tires " + words[k]), values[k]);
                faulty("tires " + words[k] + "s", 6);
                faulty("tires " + words[k].substring(1), 6);
                faulty("tires " + words[k].substring(0, words[k].length() - 1), 6);
                faulty("tires " + words[k].toUpperCase(), 6);
            }
        });
        sentence("II", "50 PARTS that are NUMBERS and words (FAULT at the 51st)", () -> {
            String numbers = "tires 1" + times("+1", 49);
            sound(numbers);
            faulty(numbers + "+1", numbers.length() + 1);
            faulty(numbers + "+", numbers.length() + 1);
            String words = "tires to" + times("-to", 49);
            sound(words);
            faulty(words + "-to", words.length() + 1);
            String inBrackets = "tires [1]" + times("*[1]", 49);
            sound(inBrackets);
            faulty(inBrackets + "*[1]", inBrackets.length() + 2);
            String clauses = "tires 1" + times("+low", 24) + "; bars if 1" + times("/1", 23) + "=1";
            sound(clauses);
            sound(clauses + ";bars");
            faulty(clauses + "+1", clauses.length() + 1);
            faulty(clauses + " or to=1", clauses.length() + 4);
            faulty(clauses + "; tires 1", clauses.length() + 8);
            due("all are worked", tiresBy(numbers), 50);
            HillSchool x = new HillSchool();
            due("50", law(x, numbers), 0);
            due("50 of the next text", law(x, words), 1);
            due("51", law(x, numbers + "+1"), -6);
            due("50 behind that", law(x, clauses), 2);
        });
        sentence("II", "8 brackets of both kinds within one another (FAULT at the 9th) at most", () -> {
            String eight = "tires " + times("[", 8) + "1" + times("]", 8);
            sound(eight);
            sound(eight + "+" + eight.substring(6));
            faulty("tires " + times("[", 9) + "1" + times("]", 9), 14);
            sound("bars if " + times("(", 8) + "1=1" + times(")", 8));
            faulty("bars if " + times("(", 9) + "1=1" + times(")", 9), 16);
            sound("bars if ((((( [[[1]]] = [[[1]]] ))))) and [[[[[[[[1]]]]]]]]=1");
            faulty("bars if ((((([[[[1]]]]=1)))))", 16);
            faulty("bars if ((((( 1=[[[[1]]]] )))))", 19);
            sound("bars if ((((((([1]=1)))))))");
            faulty("bars if (((((((([1]=1))))))))", 16);
            sound("bars if (1=1)" + times(" or (1=1)", 24));
            due("eight are worked", tiresBy("tires [1+[1+[1+[1+[1+[1+[1+[1+1]]]]]]]]"), 9);
            due("eight are worked", tiresBy("tires 2+2*[1+2*[1+2*" + times("[1+1*", 5) + "[1+1]" + times("]", 7) + "-20"), 44);
        });
        sentence("II", "FAULT: the first TOKEN that can't go on there (the end's: the TEXT's length)", () -> {
            faulty("tires 1 x y", 8);
            faulty("tires x 1001", 6);
            faulty("x;tires", 0);
            faulty("bars if", 7);
            faulty("bars if   ", 10);
            faulty("    ", 4);
            faulty("bars if" + times(" ", 393), 400);
            faulty("bars" + times(" ", 395) + "x", 399);
            faulty(times(" ", 400), 400);
            faulty(times("(", 400), 0);
            sound("bars" + times(" ", 396));
        });
    }

    private static void asked() {
        sentence("II", "It is asked of a CARRYING: a CHILD takes the top STONE of a COLUMN from to another one", () -> {
            HillSchool x = full();
            x.back(0);
            x.stone(2, 30);
            x.force(NONE);
            due("as far apart", x.tires(4, 2, 11), 9);
            HillSchool y = hill(w(1, 30), w(), w(), w(), w(), w(), w(), w(), w(), w(), w(), w(2, 1));
            for (int child = 0; child < 6; child++) {
                y.child(child == 5 ? 60 : 1);
            }
            inForce(y, "tires child+strength+weight/10");
            due("child 5, strength 60, weight 30", y.tires(5, 0, 11), 68);
            due("child 0, strength 1, weight 1", y.tires(0, 11, 0), 1);
            inForce(y, "tires to*8+from");
            due("from 0 to 11", y.tires(5, 0, 11), 88);
            due("from 11 to 0", y.tires(5, 11, 0), 11);
        });
        sentence("II", "high, low: how many STONES are in from, in to ahead of it", () -> {
            HillSchool x = high(10, 9, 1, 0);
            x.child(1);
            inForce(x, "tires high*9+low");
            due("10, 9", x.tires(0, 0, 1), 99);
            due("1, 0", x.tires(0, 2, 3), 9);
            due("9, 0", x.tires(0, 1, 3), 81);
            x.carry(0, 2, 3);
            due("behind it the other way", x.tires(0, 3, 2), 9);
        });
        sentence("II", "Beyond 1,000,000,000 either way", () -> {
            due("just", tiresBy("tires 5; tires 1000*1000*1000/1000/1000/1000"), 1);
            due("just, below", tiresBy("tires 5; tires 0-1000*1000*1000"), 0);
            due("+", tiresBy("tires 5; tires 1000*1000*1000+1-1"), 5);
            due("+ just", tiresBy("tires 5; tires 1000*1000*1000-1+1-1000*1000*1000+8"), 8);
            due("-", tiresBy("tires 5; tires 0-1000*1000*1000-1+1"), 5);
            due("- just", tiresBy("tires 5; tires 1-1000*1000*1000-1"), 0);
            due("- of one below 0", tiresBy("tires 5; tires 1000*1000*1000-[0-1]"), 5);
            due("*", tiresBy("tires 5; tires [1000*1000*1000]*2/1000/1000/1000"), 5);
            due("*, below", tiresBy("tires 5; tires [0-1000*1000*1000]*2"), 5);
            due("* of both below 0", tiresBy("tires 5; tires [0-1000*1000*1000]*[0-1]/1000/1000/1000"), 1);
            due("* of both below 0", tiresBy("tires 5; tires [0-1000*1000*1000]*[0-2]/1000/1000/1000"), 5);
            due("/ of both below 0", tiresBy("tires 5; tires [0-1000*1000*1000]/[0-1]-1000*1000*1000+7"), 7);
            due("32 bits", tiresBy("tires 5; tires 1000*1000*1000*5/1000/1000/1000"), 5);
            due("32 bits", tiresBy("tires 5; tires [256*256]*[256*256]+7"), 5);
            due("64 bits", tiresBy("tires 5; tires [256*256*256*59]*[256*256*256*59]*[256*256]*0+7"), 5);
            due("the highest together", tiresBy("tires 5; tires [1000*1000*1000]*[1000*1000*1000]*0+7"), 5);
        });
        sentence("II", ", or divided by 0", () -> {
            due("1/0", tiresBy("tires 5; tires 1/0"), 5);
            due("0/0", tiresBy("tires 5; tires 0/0"), 5);
            due("by a word that is 0", tiresBy("tires 5; tires 7/[from-1]"), 5);
            due("times 0", tiresBy("tires 5; tires 0*[1/0]"), 5);
            due("0 divided", tiresBy("tires 5; tires 0/3"), 0);
        });
        sentence("II", ", a SUM, a TEST is BROKEN", () -> {
            due("a sum", tiresBy("tires 5; tires 9+1/0"), 5);
            so("1/0=1", false);
            so("1=1/0", false);
            so("not 1/0=1", false);
            so("1000*1000*1000+1>0", false);
            so("not 1000*1000*1000+1>0", false);
            so("1000*1000*1000>0", true);
            so("0-1000*1000*1000<0", true);
            so("0-1000*1000*1000-1<0", false);
            so("[0-1000*1000*1000]<[1000*1000*1000]", true);
        });
        sentence("II", "/ is cut towards 0", () -> {
            due("7/2", tiresBy("tires 7/2"), 3);
            due("-7/2", tiresBy("tires 50+[0-7]/2"), 47);
            due("7/-2", tiresBy("tires 50+7/[0-2]"), 47);
            due("-7/-2", tiresBy("tires 50+[0-7]/[0-2]"), 53);
            due("-1/2", tiresBy("tires 50+[0-1]/2"), 50);
            due("1/-2", tiresBy("tires 50+1/[0-2]"), 50);
            due("-6/2", tiresBy("tires 50+[0-6]/2"), 47);
        });
    }

    private static void holds() {
        sentence("II", "A CLAUSE HOLDS, if its \"if\" (if it has one) is so", () -> {
            due("it has none", tiresBy("tires 5; tires 9"), 9);
            due("is so", tiresBy("tires 5; tires 9 if 1=1"), 9);
            due("is not so", tiresBy("tires 5; tires 9 if 1=2"), 5);
            due("bars: it has none", tiresBy("bars"), NONE);
            due("bars: is not so", tiresBy("bars if 1=2"), 2);
        });
        sentence("II", ", and neither that nor its SUM is BROKEN", () -> {
            due("the if", tiresBy("tires 5; tires 9 if 1/0=1"), 5);
            due("the sum", tiresBy("tires 5; tires 9/0 if 1=1"), 5);
            due("both", tiresBy("tires 5; tires 9/0 if 1/0=1"), 5);
            due("those behind hold", tiresBy("tires 9/0; tires 7"), 7);
            due("those ahead hold", tiresBy("bars; tires 9/0"), NONE);
            due("bars: the if", tiresBy("bars if 1/0=1; tires 8"), 8);
        });
        sentence("II", "(\"or\", \"and\" ask what stands behind only if it can still matter;", () -> {
            so("1=1 or 1/0=1", true);
            so("1=1 or 1/0=1 or 1/0=1", true);
            so("1=1 or 1/0=1 and 1/0=1", true);
            so("not (1=2 and 1/0=1)", true);
            so("1=2 and 1/0=1 and 1/0=1 or 2=2", true);
            so("1=2 or 2=2 or 1/0=1", true);
            so("not (1=1 and 1=2 and 1/0=1)", true);
            so("(1=1 or 1/0=1) and (2=2 or 1/0=1)", true);
            so("(1=2 and 1/0=1) or 2=2", true);
            so("not (1=1 or 1/0=1) or 2=2", true);
            so("1=1 and 1=1 or 1/0=1", true);
        });
        sentence("II", "a part that was asked and is BROKEN makes all of it BROKEN)", () -> {
            so("1/0=1 or 1=1", false);
            so("not (1/0=1 or 1=1)", false);
            so("1/0=1 and 1=2", false);
            so("not (1/0=1 and 1=2)", false);
            so("1=2 or 1/0=1", false);
            so("not (1=1 and 1/0=1)", false);
            so("1=2 or 1/0=1 or 1=1", false);
            so("(1=2 or (1=1 and 1/0=1)) or 1=1", false);
            so("1=2 and 1=1 or 1/0=1 or 1=1", false);
        });
        sentence("II", "It TIRES as the last \"tires\" that HOLDS tells", () -> {
            due("the last", tiresBy("tires 5; tires 6; tires 7"), 7);
            due("that holds", tiresBy("tires 5; tires 6; tires 7 if 1=2; tires 8/0"), 6);
            due("bars that does not hold behind it", tiresBy("tires 5; bars if 1=2"), 5);
            due("the 12th", tiresBy(times("tires 5;", 11) + "tires 6"), 6);
        });
        sentence("II", ", 0 .. 99 (else the nearest)", () -> {
            due("-1", tiresBy("tires 0-1"), 0);
            due("0", tiresBy("tires 0"), 0);
            due("99", tiresBy("tires 99"), 99);
            due("100", tiresBy("tires 100"), 99);
            due("the highest", tiresBy("tires 1000*1000*1000"), 99);
            due("the lowest", tiresBy("tires 0-1000*1000*1000"), 0);
        });
        sentence("II", "; without: as far as both COLUMNS are apart", () -> {
            HillSchool x = high(1, 0, 0, 0, 0, 0, 0, 0, 0, 0, 0, 1);
            x.child(1);
            due("to the right", x.tires(0, 0, 11), 11);
            due("to the left", x.tires(0, 11, 0), 11);
            due("beside", x.tires(0, 11, 10), 1);
            inForce(x, "tires 50 if from=0; tires 7/0; bars if 1=2");
            due("none that holds", x.tires(0, 11, 0), 11);
            due("one that holds", x.tires(0, 0, 11), 50);
        });
        sentence("II", "It is BARRED, if \"bars\" HOLDS.", () -> {
            due("holds", tiresBy("bars"), NONE);
            due("any of them", tiresBy("bars if 1=1; bars if 1=2; tires 3"), NONE);
            due("the last of them", tiresBy("tires 3; bars if 1=2; bars"), NONE);
            due("none of them", tiresBy("bars if 1=2; bars if 1/0=1"), 2);
        });
    }

    private static void carryings() {
        sentence("III", "A CARRYING CAN be, if from has a STONE", () -> {
            HillSchool x = high(0, 1);
            x.child(1);
            due("none", x.can(0, 0, 1), 0);
            due("one", x.can(0, 1, 0), 1);
        });
        sentence("III", "to fewer than 10", () -> {
            HillSchool x = high(10, 9, 10);
            x.child(1);
            due("9", x.can(0, 0, 1), 1);
            due("10", x.can(0, 1, 0), 0);
            due("10 to 10", x.can(0, 0, 2), 0);
        });
        sentence("III", "and is another one", () -> {
            HillSchool x = high(1);
            x.child(1);
            due("the same", x.can(0, 0, 0), 0);
        });
        sentence("III", "the CHILD is not EXPELLED", () -> {
            HillSchool x = high(1, 0);
            x.child(1);
            x.expel(0, 1);
            due("is", x.can(0, 0, 1), 0);
            x.expel(0, 0);
            due("is not", x.can(0, 0, 1), 1);
        });
        sentence("III", "and as strong as it is heavy at least", () -> {
            HillSchool x = hill(w(1, 30), w(), w(1));
            x.child(29);
            x.child(30);
            x.child(31);
            x.child(1);
            due("29", x.can(0, 0, 1), 0);
            due("30", x.can(1, 0, 1), 1);
            due("31", x.can(2, 0, 1), 1);
            due("1 of 1", x.can(3, 2, 1), 1);
        });
        sentence("III", ", and it is not BARRED", () -> {
            HillSchool x = high(1, 0, 0);
            x.child(1);
            inForce(x, "bars if to=1");
            due("is", x.can(0, 0, 1), 0);
            due("is not", x.can(0, 0, 2), 1);
        });
    }

    private static void slides() {
        sentence("III", "A COLUMN is STEEP beside a next one, if it has more than STEEP STONES more.", () -> {
            for (int steep = 1; steep < 10; steep++) {
                HillSchool just = high(steep, 0, steep);
                just.terms(2, steep);
                due("not more than " + steep, just.steep(), NONE);
                HillSchool right = high(steep + 1, 0);
                right.terms(2, steep);
                due("more than " + steep, right.steep(), 0);
                HillSchool left = high(0, steep + 1);
                left.terms(2, steep);
                due("more than " + steep, left.steep(), 1);
            }
            due("not the next one", high(4, 1, 0).steep(), NONE);
        });
        sentence("III", "SLIDES: the lowest COLUMN that is STEEP beside one or both next to it", () -> {
            HillSchool x = hill(w(1, 1, 1, 1, 2), w(), w(1, 1, 1, 1, 3));
            due("slide", x.slide(), 2);
            stones(x, 1, 2, 3);
            due("beside both", high(0, 4, 0).steep(), 1);
            due("beside the left", high(0, 4, 4).steep(), 1);
            due("beside the right", high(4, 4, 0).steep(), 1);
            due("beside none", high(10).steep(), NONE);
        });
        sentence("III", ": its top STONE goes to the one to the left, if it is STEEP beside that, else to the right", () -> {
            HillSchool both = hill(w(), w(1, 2, 3, 4), w());
            due("both", both.slide(), 1);
            stones(both, 0, 4);
            stones(both, 1, 1, 2, 3);
            HillSchool right = hill(w(9), w(1, 2, 3, 4), w());
            due("right", right.slide(), 1);
            stones(right, 2, 4);
            HillSchool first = hill(w(1, 2, 3, 4), w());
            due("the first", first.slide(), 1);
            stones(first, 1, 4);
            HillSchool last = hill(w(), w(1, 2, 3, 4));
            due("the last", last.slide(), 1);
            stones(last, 0, 4);
            HillSchool lower = hill(w(9), w(1, 2, 3, 4, 5), w());
            due("left, though the right is lower", lower.slide(), 2);
            stones(lower, 0, 9, 5);
            stones(lower, 2, 4);
        });
        sentence("III", "; and again, till none is.", () -> {
            due("none at once", high(3, 0).slide(), 0);
            due("none at all", new HillSchool().slide(), 0);
            HillSchool x = high(10, 0, 0, 0);
            x.terms(2, 1);
            due("slide", x.slide(), 10);
            heights(x, 4, 3, 2, 1);
            due("again", x.slide(), 0);
            HillSchool y = hill(w(), w(1, 2, 3, 4, 5), w());
            due("slide", y.slide(), 2);
            stones(y, 0, 5);
            stones(y, 1, 1, 2, 3);
            stones(y, 2, 4);
            HillSchool wide = high(10, 10, 10, 10, 10, 0, 0, 0, 0, 0, 0, 0);
            wide.terms(2, 1);
            wide.slide();
            due("all stay on the hill", wide.count(1), 50);
            due("none is steep", wide.steep(), NONE);
        });
        sentence("III", "(A COLUMN of 10 takes no more: none slides there.)", () -> {
            HillSchool x = high(10, 10, 9, 10, 8, 10);
            x.terms(2, 1);
            due("slide", x.slide(), 1);
            heights(x, 10, 10, 9, 9, 9, 10);
            HillSchool all = high(10, 10, 10);
            all.terms(2, 1);
            due("slide", all.slide(), 0);
        });
    }

    private static void shades() {
        sentence("III", "SHADE at a COLUMN: the most, over all COLUMNS, of STONES in it less SLOPE times how far it is", () -> {
            HillSchool x = high(0, 5, 0, 0, 9, 0);
            int[][] want = {{5, 6, 7, 8, 9, 8}, {3, 5, 5, 7, 9, 7}, {0, 5, 0, 0, 9, 0}};
            int[] slopes = {1, 2, 9};
            for (int parish = 0; parish < 6; parish++) {
                x.parish(parish);
            }
            for (int k = 0; k < 3; k++) {
                x.terms(1, slopes[k]);
                for (int parish = 0; parish < 6; parish++) {
                    due("slope " + slopes[k] + ", shade(" + parish + ")", x.shade(parish), want[k][parish]);
                }
            }
        });
        sentence("III", "; 0 at least.", () -> {
            HillSchool x = high(10, 0, 0, 0, 0, 0, 0, 0, 0, 0, 0, 0);
            x.parish(9);
            x.parish(10);
            x.parish(11);
            due("10 less 9", x.shade(0), 1);
            due("10 less 10", x.shade(1), 0);
            due("10 less 11", x.shade(2), 0);
            x.terms(1, 9);
            due("10 less 99", x.shade(2), 0);
            due("together", x.shade(NONE), 0);
        });
        sentence("III", "A PARISH GAINS by a CARRYING", () -> {
            HillSchool x = high(3, 0, 0);
            x.child(1);
            x.parish(0);
            due("gains", x.gains(0, 0, 0, 1), 1);
            due("can't be", x.gains(0, 0, 1, 0), NOTHING);
            heights(x, 3, 0, 0);
        });
        sentence("III", "(before any SLIDES)", () -> {
            HillSchool x = high(5, 0, 0, 0);
            x.child(1);
            x.parish(1);
            due("4 less 3", x.gains(0, 0, 0, 3), 1);
            heights(x, 5, 0, 0, 0);
        });
        sentence("III", "what it has less SHADE then (below 0: it loses)", () -> {
            HillSchool x = high(3, 0, 1);
            x.child(1);
            x.parish(0);
            x.parish(2);
            due("less", x.gains(0, 0, 0, 2), 1);
            due("more: it loses", x.gains(1, 0, 0, 2), -1);
            due("as much", x.gains(0, 0, 2, 1), 0);
        });
    }

    private static void small() {
        sentence("III", "A SMALL hill has 4 COLUMNS and 5 STONES at most.", () -> {
            HillSchool x = high(3, 1, 1);
            due("3, 5", x.plan(0, NONE, 0), 0);
            x.column();
            due("4, 5", x.plan(0, NONE, 0), 0);
            x.stone(3, 1);
            due("4, 6", x.plan(0, NONE, 0), NONE);
            x.lift(0);
            x.column();
            due("5, 5", x.plan(0, NONE, 0), NONE);
            due("none at all", new HillSchool().plan(0, NONE, 0), 0);
            HillSchool heavy = hill(w(30, 29, 28, 27, 26), w(), w(), w());
            heavy.child(30);
            heavy.goal(3, 5);
            row(heavy, 0, 5, 0, 3, 0, 0, 3, 0, 0, 3, 0, 0, 3, 0, 0, 3, 0);
            inForce(heavy, "tires 1; bars if to=3 and low=4");
            for (int sort = 0; sort < 3; sort++) {
                row(heavy, sort, NONE);
            }
            heavy.goal(3, 4);
            heavy.goal(0, 1);
            row(heavy, 2, 4, 0, 3, 0, 0, 3, 0, 0, 3, 0, 0, 3, 0);
            inForce(heavy, "tires 1; bars if to=3 and not weight=26+low");
            heavy.goal(0, 0);
            heavy.goal(3, 5);
            row(heavy, 2, 5, 0, 3, 0, 0, 3, 0, 0, 3, 0, 0, 3, 0, 0, 3, 0);
            inForce(heavy, "tires 1; bars if to=3 and not weight=30-low");
            for (int sort = 0; sort < 3; sort += 2) {
                row(heavy, sort, 9, 0, 1, 0, 0, 1, 0, 0, 1, 0, 0, 1, 0, 0, 3, 0, 1, 3, 0, 1, 3, 0, 1, 3, 0, 1, 3, 0);
            }
        });
        sentence("III", "GOALS are told heights 0 .. 10 of COLUMNS (NONE: any; at first).", () -> {
            HillSchool x = high(2, 0);
            x.child(1);
            due("at first", x.goal(0, 0), NONE);
            due("0", x.plan(0, NONE, 0), 2);
            due("was", x.goal(0, 10), 0);
            due("10", x.plan(0, NONE, 0), NONE);
            due("was", x.goal(0, NONE), 10);
            due("any", x.plan(0, NONE, 0), 0);
            due("-2", x.goal(0, -2), NOTHING);
            due("11", x.goal(0, 11), NOTHING);
            due("stays", x.goal(0, NONE), NONE);
        });
        sentence("III", "FEWEST CARRYINGS, one behind the other, by any CHILDREN, till all GOALS are so", () -> {
            HillSchool x = hill(w(1, 9), w(), w());
            x.child(1);
            x.child(9);
            x.goal(0, 0);
            row(x, 0, 2, 0, 1, 1, 0, 1, 0);
            x.goal(1, 1);
            row(x, 0, 2, 0, 1, 1, 0, 2, 0);
            x.goal(2, 1);
            row(x, 0, 2, 0, 1, 1, 0, 2, 0);
            x.expel(1, 1);
            row(x, 0, NONE);
            x.goal(0, 2);
            x.goal(1, 0);
            x.goal(2, 0);
            row(x, 0, 0);
            row(x, 2, 0);
        });
        sentence("III", "; SAFE ones: behind none of which any COLUMN is STEEP beside one next to it.", () -> {
            HillSchool x = high(1, 3, 0);
            x.child(1);
            x.terms(2, 2);
            x.goal(0, 0);
            x.goal(2, 2);
            row(x, 0, 2, 0, 2, 0, 1, 2, 0);
            row(x, 1, 2, 1, 2, 0, 0, 2, 0);
            HillSchool steep = high(5, 0);
            steep.child(1);
            steep.goal(0, 5);
            row(steep, 1, 0);
            steep.goal(0, 3);
            row(steep, 1, 2, 0, 1, 0, 0, 1, 0);
            steep.terms(2, 2);
            row(steep, 1, NONE);
            steep.goal(0, 0);
            row(steep, 0, 5, 0, 1, 0, 0, 1, 0, 0, 1, 0, 0, 1, 0, 0, 1, 0);
            steep.terms(2, 9);
            row(steep, 1, 5, 0, 1, 0, 0, 1, 0, 0, 1, 0, 0, 1, 0, 0, 1, 0);
        });
    }

    private static void tiring() {
        sentence("III", "LEAST TIRING: the least sum of what they TIRE, then the fewest.", () -> {
            HillSchool x = high(1, 0, 0);
            x.child(1);
            x.goal(2, 1);
            row(x, 2, 2, 0, 2, 0);
            inForce(x, "tires 1; tires 3 if from=0 and to=2");
            row(x, 2, 2, 0, 1, 0, 1, 2, 0);
            row(x, 0, 1, 0, 2, 0);
            inForce(x, "tires 0");
            row(x, 2, 0, 0, 2, 0);
            HillSchool y = high(5, 0);
            y.child(1);
            y.goal(1, 5);
            inForce(y, "tires 99");
            due("5 times 99", y.plan(2, NONE, 0), 495);
        });
        sentence("III", "The first as a row of (from, to, CHILD), each the lowest by which as few, as little is left.", () -> {
            HillSchool x = high(2, 2, 0, 0);
            x.child(1);
            x.child(1);
            x.goal(0, 1);
            x.goal(1, 1);
            row(x, 0, 2, 0, 2, 0, 1, 2, 0);
            row(x, 2, 3, 0, 2, 0, 1, 2, 0);
            inForce(x, "tires 7-child");
            row(x, 2, 12, 0, 2, 1, 1, 2, 1);
            row(x, 0, 2, 0, 2, 0, 1, 2, 0);
            inForce(x, "tires 5; tires 4 if to=3");
            row(x, 2, 8, 0, 3, 0, 1, 3, 0);
            inForce(x, "tires 5; bars if from=0 and low=0");
            row(x, 0, 2, 1, 2, 0, 0, 2, 0);
        });
        sentence("III", "TERM stays.", () -> {
            HillSchool x = high(2, 0);
            x.child(1);
            x.terms(0, 7);
            x.goal(0, 0);
            inForce(x, "tires term; bars if not term=7");
            row(x, 2, 14, 0, 1, 0, 0, 1, 0);
            due("terms", x.terms(0, 8), 7);
            row(x, 2, NONE);
        });
        sentence("III", "An EXCHANGE by a CHILD: a CARRYING from a to b, then one from c to a", () -> {
            HillSchool x = hill(w(1, 2), w(5), w(3, 9));
            x.child(9);
            due("exchange", x.exchange(0, 0, 1, 2), 7);
            stones(x, 0, 1, 9);
            stones(x, 1, 5, 2);
            stones(x, 2, 3);
        });
        sentence("III", "(b and c may be one)", () -> {
            HillSchool x = hill(w(1, 2), w(5));
            x.child(9);
            x.terms(3, 0);
            due("the stone comes back", x.exchange(0, 0, 1, 1), 0);
            stones(x, 0, 1, 2);
            stones(x, 1, 5);
            x.terms(3, 1);
            due("unlike by 0", x.exchange(0, 0, 1, 1), -3);
        });
        sentence("III", ": both CAN be", () -> {
            HillSchool x = hill(w(1, 1, 1, 1, 1, 1, 1, 1, 1, 3), w(1, 1, 1, 1, 1, 1, 1, 1, 1), w(7), w());
            x.child(7);
            x.child(6);
            due("c has none", x.exchange(0, 0, 1, 3), -3);
            due("a has none", x.exchange(0, 3, 1, 2), -3);
            due("a is b", x.exchange(0, 0, 0, 2), -3);
            due("a is c", x.exchange(0, 0, 1, 0), -3);
            due("too weak down", x.exchange(1, 0, 1, 2), -3);
            due("too weak up", x.exchange(1, 2, 3, 0), -3);
            heights(x, 10, 9, 1, 0);
            due("a was full, b becomes so", x.exchange(0, 0, 1, 2), 4);
            heights(x, 10, 10, 0, 0);
            due("b is full", x.exchange(0, 0, 1, 1), -3);
            inForce(x, "bars if to=0 and high=9");
            due("barred behind the first", x.exchange(0, 0, 3, 1), 4);
            due("barred behind the first", x.exchange(0, 0, 2, 1), -3);
        });
        sentence("III", ", and WEIGHTS unlike by OUNCE at least", () -> {
            HillSchool x = hill(w(1), w(), w(30), w());
            x.child(30);
            x.terms(3, 30);
            due("29 of 30", x.exchange(0, 0, 1, 2), -3);
            x.terms(3, 29);
            due("29 of 29", x.exchange(0, 0, 1, 2), 29);
            due("the other way", x.exchange(0, 0, 2, 1), 29);
            HillSchool y = hill(w(4), w(), w(4));
            y.child(9);
            due("0 of 1", y.exchange(0, 0, 1, 2), -3);
            y.terms(3, 0);
            due("0 of 0", y.exchange(0, 0, 1, 2), 0);
            heights(y, 1, 1, 0);
        });
    }

    private static void weighed() {
        sentence("III", "WEIGHS: sets of STONES of all COLUMNS that weigh so much together.", () -> {
            HillSchool x = hill(w(1, 2), w(3), w(3));
            int[] want = {1, 1, 1, 3, 2, 2, 3, 1, 1, 1, 0};
            for (int weight = 0; weight < want.length; weight++) {
                due("weighs(" + weight + ")", x.weighs(weight), want[weight]);
            }
            due("no stones, 0", new HillSchool().weighs(0), 1);
            due("no stones, 1", new HillSchool().weighs(1), 0);
        });
        sentence("III", "TRIPS of CHILDREN (0 .. 20 each; 0 at first)", () -> {
            HillSchool x = new HillSchool();
            x.child(1);
            due("at first", x.fact(0, 2), 0);
            due("20", x.trips(0, 20), 0);
            refused(x, "21", 0, x.trips(0, 21), -1);
            refused(x, "-1", 1, x.trips(0, -1), -1);
            due("0", x.trips(0, 0), 20);
        });
        sentence("III", ": each CHILD with gravel in the pockets brings so many ounces (1 .. 9) more on each TRIP", () -> {
            HillSchool x = new HillSchool();
            x.child(1);
            x.trips(0, 3);
            for (int ounces = 1; ounces < 10; ounces++) {
                found(x, ounces, 3 * ounces, 1, 1, 1, 0, 0);
                found(x, ounces, 3 * ounces + 1, 0, NONE, NONE, NONE, NONE);
            }
            found(x, 0, 0, NONE, NONE, NONE, NONE, NONE);
            found(x, 10, 30, NONE, NONE, NONE, NONE, NONE);
            found(x, -1, 0, NONE, NONE, NONE, NONE, NONE);
        });
        sentence("III", "; the hill weighs so much (0 .. 999) more than it should.", () -> {
            HillSchool x = new HillSchool();
            for (int child = 0; child < 6; child++) {
                x.child(1);
                x.trips(child, child < 5 ? 20 : 11);
            }
            found(x, 9, 999, 1, 63, 63, 0, 0);
            found(x, 9, 1000, NONE, NONE, NONE, NONE, NONE);
            found(x, 9, 0, 1, 0, 0, 63, 0);
            found(x, 9, -1, NONE, NONE, NONE, NONE, NONE);
        });
        sentence("III", "CULPRITS: sets of CHILDREN by whom it is just so.", () -> {
            HillSchool x = new HillSchool();
            for (int child = 0; child < 6; child++) {
                x.child(1);
                x.trips(child, 1);
            }
            int[] sets = {1, 6, 15, 20, 15, 6, 1, 0};
            for (int more = 0; more < sets.length; more++) {
                due("of " + more, x.culprits(1, more, 0), sets[more]);
            }
            x.trips(5, 0);
            found(x, 1, 5, 2, 31, 31, 0, 5);
        });
        sentence("III", "To WEIGH one CHILD tells whether he is one: the best is that by which the more of the sets are the fewest", () -> {
            HillSchool x = new HillSchool();
            int[] trips = {3, 1, 2, 1};
            for (int child = 0; child < trips.length; child++) {
                x.child(1);
                x.trips(child, trips[child]);
            }
            // 3 is {0}, {1, 2}, {2, 3}: child 0 is in 1 of 3, 1 in 1, 2 in 2, 3 in 1: each leaves 2.
            found(x, 1, 3, 3, 1, 0, 0, 0);
            // 4 is {0, 1}, {0, 3}, {1, 2, 3}: child 0 is in 2, 1 in 2, 2 in 1, 3 in 2.
            found(x, 1, 4, 3, 3, 0, 0, 0);
            // 5 is {0, 2}, {0, 1, 3}: child 0 is in both and tells nothing, child 1 is in one.
            found(x, 1, 5, 2, 5, 1, 0, 1);
        });
        sentence("III", "; the lowest CHILD.", () -> {
            HillSchool x = new HillSchool();
            x.child(1);
            x.child(1);
            found(x, 1, 0, 4, 0, 0, 0, 0);
            x.trips(0, 5);
            found(x, 1, 5, 2, 1, 1, 0, 1);
        });
    }

    private static void schools() {
        sentence("III", "TWO SCHOOLS by turns, n 1 .. 4", () -> {
            HillSchool x = high(3, 0, 0);
            x.child(1);
            x.parish(0);
            outcome(x, 0, 0, NONE, NONE, NONE);
            outcome(x, 1, 0, 2, 0, 1);
            outcome(x, 2, 0, 1, 0, 1);
            outcome(x, 2, 1, 3, 0, 1);
            outcome(x, 5, 0, NONE, NONE, NONE);
            outcome(x, -1, 0, NONE, NONE, NONE);
            due("4 can be", x.duel(4, 0, 0) >= 0 ? 1 : 0, 1);
        });
        sentence("III", ", on a SMALL hill (STONES up to 40, COLUMNS 4 at most)", () -> {
            HillSchool x = high(10, 10, 10, 9);
            x.child(1);
            x.parish(3);
            outcome(x, 1, 0, 10, 0, 3);
            x.stone(3, 1);
            outcome(x, 4, 1, 10, NONE, NONE);
            x.lift(0);
            x.column();
            outcome(x, 1, 0, NONE, NONE, NONE);
            outcome(new HillSchool(), 4, 0, 0, NONE, NONE);
            HillSchool heavy = hill(w(30), w());
            heavy.child(30);
            heavy.parish(1);
            outcome(heavy, 1, 0, 1, 0, 1);
            HillSchool weak = hill(w(30), w());
            weak.child(29);
            weak.parish(1);
            outcome(weak, 1, 0, 0, NONE, NONE);
        });
        sentence("III", ", who is first told", () -> {
            HillSchool x = high(1, 0, 0);
            x.child(1);
            x.parish(0);
            x.parish(2);
            outcome(x, 1, 0, 1, 0, 2);
            outcome(x, 1, 1, 0, 0, 1);
            outcome(x, 1, 2, NONE, NONE, NONE);
            outcome(x, 1, -1, NONE, NONE, NONE);
        });
        sentence("III", ": each must carry (by the lowest CHILD who CAN; none CAN be: he passes)", () -> {
            HillSchool x = high(3, 0);
            x.parish(0);
            outcome(x, 1, 0, 3, NONE, NONE);
            x.child(1);
            outcome(x, 1, 0, 2, 0, 1);
            x.expel(0, 1);
            outcome(x, 1, 0, 3, NONE, NONE);
            x.child(2);
            outcome(x, 1, 0, 2, 0, 1);
            HillSchool passes = high(1, 0, 0);
            passes.child(1);
            passes.parish(0);
            inForce(passes, "bars if from=1");
            // Behind the carrying to 1 none can be, so that all others pass.
            outcome(passes, 4, 1, 0, 0, 1);
        });
        sentence("III", ", 0 so that SHADES of all PARISHES together are the most in the end, 1 the least.", () -> {
            HillSchool x = high(2, 1, 0);
            x.child(1);
            x.parish(0);
            x.parish(0);
            outcome(x, 1, 0, 6, 1, 0);
            outcome(x, 1, 1, 2, 0, 1);
        });
        sentence("III", "LAYERS of a COLUMN: the fewest parts, each of STONES that do not get heavier going up.", () -> {
            HillSchool x = hill(w(1, 2, 3, 4, 5, 6, 7, 8, 9, 10), w(9, 9, 9, 9, 9, 9, 9, 9, 9, 9),
                    w(30, 27, 24, 21, 18, 15, 12, 9, 6, 3), w(1, 2, 1, 2), w(7), w());
            int[] want = {10, 1, 1, 3, 1, 0};
            for (int column = 0; column < want.length; column++) {
                due("layers(" + column + ")", x.layers(column), want[column]);
            }
        });
    }

    /** 12 columns of one stone, none of which slides. */
    private static HillSchool flat() {
        HillSchool x = high(1, 1, 1, 1, 1, 1, 1, 1, 1, 1, 1, 1);
        x.terms(2, 9);
        return x;
    }

    private static void drawn(int seed, int column) {
        HillSchool x = flat();
        due("rain(" + seed + ", 1)", x.rain(seed, 1), column == 11 ? 1 : 0);
        for (int k = 0; k < 12; k++) {
            due("seed " + seed + ", rained(" + k + ", 0)", x.rained(k, 0), k == column ? 0 : k == column + 1 ? 2 : 1);
        }
    }

    private static void rains() {
        sentence("IV", "A HOLIDAY's RAIN with a SEED, n days, on paper", () -> {
            HillSchool x = hill(w(1, 2), w(3), w(4, 5, 6));
            String before = kept(x);
            due("40 days", x.rain(77, 40) > 0 ? 1 : 0, 1);
            same("the hill", kept(x), before);
            due("0 days", x.rain(77, 0), -1);
            due("41 days", x.rain(77, 41), -1);
            due("1 day", x.rain(77, 1) >= 0 ? 1 : 0, 1);
        });
        sentence("IV", ": s is the SEED (0 .. 1,000,000)", () -> {
            HillSchool x = high(1);
            due("0", x.rain(0, 1), 1);
            due("1,000,000", x.rain(1_000_000, 1), 1);
            refused(x, "-1", 0, x.rain(-1, 1), -1);
            refused(x, "1,000,001", 1, x.rain(1_000_001, 1), -1);
            refused(x, "min", 2, x.rain(Integer.MIN_VALUE, 1), -1);
            refused(x, "max", 3, x.rain(Integer.MAX_VALUE, 1), -1);
        });
        sentence("IV", "; a DRAW of m: s becomes (s times 1103 and 12345) modulo 1,000,003, it is s modulo m.", () -> {
            // 12345 is 9 of 12; 23375 is 11.
            drawn(0, 9);
            drawn(10, 11);
            // 895 times 1103 and 12345 is 999,530, 2 of 12; one more goes round to 630, 6 of 12.
            drawn(895, 2);
            drawn(896, 6);
            // -3 times 1103 and 12345 is 9036, 0 of 12.
            drawn(1_000_000, 0);
            // And from there 979,026, 6 of 12.
            HillSchool x = flat();
            due("two days", x.rain(1_000_000, 2), 0);
            drops(x, 0, 0, 2, 2, 1, 1, 1, 1, 1, 1, 1, 1, 0, 0, 2, 2);
            for (int seed = 0; seed <= 1_000_000; seed += 14_321) {
                drawn(seed, (int) ((seed * 1103L + 12345) % 1_000_003 % 12));
            }
        });
        sentence("IV", "Each day a DRAW of COLUMNS: its top STONE (if any) goes one to the right", () -> {
            // Seed 5 draws the first of two, seed 0 the second.
            HillSchool x = hill(w(4, 7), w(2));
            due("rain", x.rain(5, 1), 0);
            drops(x, 1, 4, 2, 9);
            HillSchool none = hill(w(), w(2));
            due("none", none.rain(5, 1), 0);
            drops(none, 0, 0, 1, 2);
        });
        sentence("IV", ", if that is there and has fewer than 10 (else it is washed away)", () -> {
            HillSchool last = hill(w(4), w(2));
            due("not there", last.rain(0, 1), 1);
            drops(last, 1, 4, 0, 0);
            HillSchool nine = hill(w(4, 3), w(1, 1, 1, 1, 1, 1, 1, 1, 1));
            nine.terms(2, 9);
            due("9", nine.rain(5, 1), 0);
            drops(nine, 1, 4, 10, 12);
            HillSchool ten = hill(w(4, 3), w(1, 1, 1, 1, 1, 1, 1, 1, 1, 1));
            ten.terms(2, 9);
            due("10", ten.rain(5, 1), 1);
            drops(ten, 1, 4, 10, 10);
            HillSchool alone = high(10);
            due("all but none, of one column", alone.rain(9, 9), 9);
            drops(alone, 1, 1);
            due("one more day than stones", alone.rain(9, 11), 10);
        });
        sentence("IV", "; then SLIDES.", () -> {
            HillSchool x = hill(w(1, 2, 3, 4), w());
            due("though none goes", x.rain(0, 1), 0);
            drops(x, 3, 6, 1, 4);
            HillSchool y = hill(w(1, 2, 3, 4, 5), w(9));
            y.terms(2, 1);
            due("behind that which goes", y.rain(5, 1), 0);
            drops(y, 4 - 1, 6, 3, 18);
            due("the hill has not slid", y.steep(), 0);
        });
    }

    private static void rows() {
        sentence("IV", "A ROW: the TAPE's first byte is a COLUMN", () -> {
            HillSchool x = full();
            x.end(0);
            write(x, 11, 7);
            due("11", x.row(), 1);
            stones(x, 11, 7);
            write(x, 12, 7);
            due("12", x.row(), -6);
            write(x, 255, 7);
            due("255", x.row(), -6);
            write(x, 2);
            due("it alone", x.row(), 0);
        });
        sentence("IV", ", then WEIGHTS of STONES on top of it", () -> {
            HillSchool x = hill(w(), w(6));
            write(x, 1, 1, 30, 2);
            due("row", x.row(), 3);
            stones(x, 1, 6, 1, 30, 2);
            stones(x, 0);
        });
        sentence("IV", "; one that can't be, one for which there is no room is GRAVEL: none.", () -> {
            HillSchool x = hill(w());
            write(x, 0, 0, 31, 128, 255, 32);
            due("row", x.row(), 0);
            due("gravel", x.gravel(), 5);
            stones(x, 0);
            write(x, 0, 1, 0, 2, 31, 3, 4, 5, 6, 7, 8, 9, 10, 11, 0);
            due("row", x.row(), 10);
            due("gravel", x.gravel(), 4);
            stones(x, 0, 1, 2, 3, 4, 5, 6, 7, 8, 9, 10);
            HillSchool most = hill(w());
            int[] bytes = new int[400];
            for (int i = 1; i < 400; i++) {
                bytes[i] = 7;
            }
            write(most, bytes);
            due("row of 400", most.row(), 10);
            due("gravel of 400", most.gravel(), 389);
        });
        sentence("IV", "IMAGES 0, 1 keep all but the TAPE, FAULT, GRAVEL, the latest RAIN", () -> {
            HillSchool x = full();
            String first = kept(x);
            x.image(1);
            x.lift(0);
            x.lift(1);
            x.force(3);
            x.expel(5, 0);
            x.trips(1, 9);
            for (int what = 0; what < 4; what++) {
                x.terms(what, 5);
            }
            x.goal(2, 6);
            law(x, "x");
            write(x, 1, 0, 0, 0);
            x.row();
            x.rain(9, 9);
            write(x, 1, 2, 3, 4, 5);
            String unkept = unkept(x);
            x.back(1);
            same("all that it keeps", kept(x), first);
            same("all but that", unkept(x), unkept);
            refused(x, "image(2)", refusals(x), x.image(2), -1);
            refused(x, "image(-1)", refusals(x), x.image(-1), -1);
        });
        sentence("IV", "; BACK to one all that it keeps is as it was then (IMAGES stay).", () -> {
            HillSchool x = new HillSchool();
            String none = kept(x);
            x.image(0);
            x.column();
            x.column();
            x.stone(0, 5);
            x.child(9);
            x.parish(1);
            inForce(x, "tires 8");
            x.goal(0, 3);
            String some = kept(x);
            x.image(1);
            for (int n = 0; n < 3; n++) {
                x.back(0);
                same("image 0", kept(x), none);
                x.column();
                law(x, "bars");
                x.back(1);
                same("image 1", kept(x), some);
                x.carry(0, 0, 1);
                x.child(3);
            }
            x.image(0);
            String then = kept(x);
            x.back(1);
            same("the other stays", kept(x), some);
            x.back(0);
            same("a new one", kept(x), then);
        });
        sentence("constants", "`NONE = -1`: There is none.", () -> due("NONE", NONE, -1));
        sentence("constants", "`NOTHING = -1000`: What is not there, where it could be below 0.", () -> due("NOTHING", NOTHING, -1000));
    }

    public static void main(String[] args) throws IOException {
        open();
        columns();
        people();
        refusedBy();
        tape();
        tokens();
        grammar();
        parts();
        asked();
        holds();
        carryings();
        slides();
        shades();
        small();
        tiring();
        weighed();
        schools();
        rains();
        rows();
        for (String part : new String[] {"I", "II", "III", "IV", "constants"}) {
            whole(part);
        }
        close("all boundaries of the terms hold");
    }
}
