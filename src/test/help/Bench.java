/** What the tests of promises share: hills that are made at once, texts for the tape, answers that are due. */
abstract class Bench {
    static final int NONE = HillSchool.NONE;
    static final int NOTHING = HillSchool.NOTHING;
    private static int wrong = 0;
    private static String place = "";

    /** Where the next answers stand in the document. */
    static void at(String where) {
        place = where;
    }

    static void due(String call, int got, int want) {
        if (got != want) {
            wrong++;
            System.out.println(place + ": " + call + " answered " + got + ", due is " + want);
        }
    }

    static void same(String what, String got, String want) {
        if (!got.equals(want)) {
            wrong++;
            System.out.println(place + ": " + what + " is " + got + ", due is " + want);
        }
    }

    /** A call that is refused: what it answers, its status, and that it was counted. */
    static void refused(HillSchool x, String call, int before, int got, int by) {
        due(call, got, by);
        due(call + ": status", x.status(), by);
        due(call + ": count", refusals(x), before + 1);
    }

    static int refusals(HillSchool x) {
        return x.count(6) + x.count(7) + x.count(8) + x.count(9) + x.count(10);
    }

    /** Ends the program, by 1 if an answer was not as due. */
    static void close(String good) {
        System.out.println(wrong == 0 ? good : wrong + " answers are not as due");
        if (wrong != 0) {
            System.exit(1);
        }
    }

    /** Columns, a row of weights from the ground for each. */
    static HillSchool hill(int[]... columns) {
        HillSchool x = new HillSchool();
        for (int[] weights : columns) {
            int column = x.column();
            for (int weight : weights) {
                x.stone(column, weight);
            }
        }
        return x;
    }

    static int[] w(int... weights) {
        return weights;
    }

    /** Columns with so many stones of weight 1. */
    static HillSchool high(int... heights) {
        HillSchool x = new HillSchool();
        for (int height : heights) {
            int column = x.column();
            for (int i = 0; i < height; i++) {
                x.stone(column, 1);
            }
        }
        return x;
    }

    static void heights(HillSchool x, int... heights) {
        due("count(0)", x.count(0), heights.length);
        for (int column = 0; column < heights.length; column++) {
            due("of(" + column + ", NONE)", x.of(column, NONE), heights[column]);
        }
    }

    static void stones(HillSchool x, int column, int... weights) {
        due("of(" + column + ", NONE)", x.of(column, NONE), weights.length);
        for (int i = 0; i < weights.length; i++) {
            due("of(" + column + ", " + i + ")", x.of(column, i), weights[i]);
        }
    }

    static void write(HillSchool x, int... bytes) {
        int had = x.count(5);
        for (int i = 0; i < bytes.length; i += 20) {
            x.feed(four(bytes, i), four(bytes, i + 4), four(bytes, i + 8), four(bytes, i + 12), four(bytes, i + 16));
        }
        x.end(had + bytes.length);
    }

    private static int four(int[] bytes, int at) {
        int value = 0;
        for (int i = at; i < at + 4; i++) {
            value = value << 8 | (i < bytes.length ? bytes[i] & 255 : 0);
        }
        return value;
    }

    static int law(HillSchool x, String text) {
        int[] bytes = new int[text.length()];
        for (int i = 0; i < bytes.length; i++) {
            bytes[i] = text.charAt(i);
        }
        write(x, bytes);
        return x.law();
    }

    static void inForce(HillSchool x, String text) {
        int number = law(x, text);
        if (number < 0) {
            due("law of " + text, number, 0);
        }
        x.force(number);
    }

    static void faulty(String text, int place) {
        HillSchool x = new HillSchool();
        due("law of '" + text + "'", law(x, text), -6);
        due("fault of '" + text + "'", x.fault(), place);
        due("status of '" + text + "'", x.status(), -6);
        due("laws of '" + text + "'", x.count(4), 0);
        due("tape of '" + text + "'", x.count(5), 0);
    }

    static void sound(String text) {
        HillSchool x = new HillSchool();
        due("law of '" + text + "'", law(x, text), 0);
        due("fault of '" + text + "'", x.fault(), NONE);
        due("status of '" + text + "'", x.status(), 0);
        due("laws of '" + text + "'", x.count(4), 1);
        due("tape of '" + text + "'", x.count(5), 0);
    }

    static String times(String text, int n) {
        StringBuilder all = new StringBuilder();
        for (int i = 0; i < n; i++) {
            all.append(text);
        }
        return all.toString();
    }

    /** Child 2, strength 20, carries a weight of 7 from column 1 (3 stones) to column 3 (2); term 6. */
    static int tiresBy(String text) {
        HillSchool x = hill(w(), w(1, 2, 7), w(), w(4, 4));
        x.child(30);
        x.child(30);
        x.child(20);
        x.terms(0, 6);
        inForce(x, text);
        return x.tires(2, 1, 3);
    }

    private static boolean isSo(String test) {
        return tiresBy("tires 50; tires 77 if " + test) == 77;
    }

    /** A test that is so, in both clauses that may have one; one that is not so may be broken. */
    static void so(String test, boolean want) {
        due(test, isSo(test) ? 1 : 0, want ? 1 : 0);
        due("barred if " + test, tiresBy("bars if " + test), want ? NONE : 2);
    }

    static void row(HillSchool x, int sort, int sum, int... carryings) {
        due("plan(" + sort + ", NONE, 0)", x.plan(sort, NONE, 0), sum);
        for (int k = 0; k < carryings.length; k++) {
            due("plan(" + sort + ", " + k / 3 + ", " + k % 3 + ")", x.plan(sort, k / 3, k % 3), carryings[k]);
        }
        due("behind the row", x.plan(sort, carryings.length / 3, 0), NONE);
    }

    /** All findings about culprits, from what 0 on. */
    static void found(HillSchool x, int ounces, int more, int... want) {
        for (int what = 0; what < want.length; what++) {
            due("culprits(" + ounces + ", " + more + ", " + what + ")", x.culprits(ounces, more, what), want[what]);
        }
    }

    static void outcome(HillSchool x, int turns, int first, int... want) {
        for (int what = 0; what < 3; what++) {
            due("duel(" + turns + ", " + first + ", " + what + ")", x.duel(turns, first, what), want[what]);
        }
        due("what 3", x.duel(turns, first, 3), NONE);
        due("what -1", x.duel(turns, first, -1), NONE);
    }

    /** Stones and their weight, of each column behind the latest rain. */
    static void drops(HillSchool x, int... want) {
        for (int k = 0; k < want.length; k++) {
            due("rained(" + k / 2 + ", " + k % 2 + ")", x.rained(k / 2, k % 2), want[k]);
        }
    }

    /** All that an image keeps, as far as it can be asked; goals are set to what they were. */
    static String kept(HillSchool x) {
        StringBuilder all = new StringBuilder();
        for (int what = 0; what < 16; what++) {
            if (what < 5 || what > 10) {
                all.append(x.count(what)).append(' ');
            }
        }
        int columns = x.count(0);
        for (int column = 0; column < columns; column++) {
            int high = x.of(column, NONE);
            all.append('|').append(high).append(' ');
            for (int i = 0; i < high; i++) {
                all.append(x.of(column, i)).append(' ');
            }
            int goal = x.goal(column, NONE);
            x.goal(column, goal);
            all.append("to ").append(goal);
        }
        int children = x.count(2);
        for (int child = 0; child < children; child++) {
            all.append('|').append(x.fact(child, 0)).append(' ').append(x.fact(child, 1)).append(' ').append(x.fact(child, 2));
            all.append(' ').append(x.tires(child, 0, 1)).append(' ').append(x.tires(child, 1, 2));
        }
        int parishes = x.count(3);
        for (int parish = NONE; parish < parishes; parish++) {
            all.append('|').append(x.shade(parish));
        }
        return all.toString();
    }

    /** What images do not keep, but for what was refused. */
    static String unkept(HillSchool x) {
        StringBuilder all = new StringBuilder();
        all.append(x.count(5)).append(' ').append(x.fault()).append(' ').append(x.gravel());
        for (int column = 0; column < 12; column++) {
            all.append('|').append(x.rained(column, 0)).append(' ').append(x.rained(column, 1));
        }
        return all.toString();
    }

    /** A hill of 12 columns, 6 children, 6 parishes, 6 laws; columns 0 (full), 1, 2 have stones, image 0 is kept. */
    static HillSchool full() {
        HillSchool x = new HillSchool();
        for (int column = 0; column < 12; column++) {
            x.column();
        }
        write(x, 0, 1, 2, 3, 4, 5, 6, 7, 8, 9, 10);
        x.row();
        x.stone(2, 4);
        write(x, 1, 2, 0, 3);
        x.row();
        for (int child = 0; child < 6; child++) {
            x.child(2 + 9 * child);
            x.parish(2 * child);
        }
        x.expel(5, 1);
        x.trips(0, 3);
        law(x, "x");
        law(x, "tires to*3; bars if to=3");
        for (int n = 1; n < 6; n++) {
            law(x, "tires " + n);
        }
        x.force(0);
        x.terms(0, 8);
        x.terms(3, 2);
        x.goal(1, 4);
        x.rain(3, 2);
        x.image(0);
        write(x, 1, 2, 3);
        return x;
    }
}
