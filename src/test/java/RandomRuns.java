import java.math.BigInteger;
import java.util.ArrayDeque;
import java.util.ArrayList;
import java.util.Arrays;
import java.util.HashMap;
import java.util.List;
import java.util.Map;

/**
 * Long runs of calls by draws, each answer held against a model that does what the document says in
 * the most naive way: every set tried, every row tried, texts cut into texts.
 */
public final class RandomRuns {
    private static final int RUNS = 40;
    private static final int CALLS = 512;
    private static final int MOST_AT_ONCE = 30;
    private static final int NONE = -1;
    private static final int NOTHING = -1000;

    public static void main(String[] args) {
        int runs = args.length > 0 ? Integer.parseInt(args[0]) : RUNS;
        int offset = args.length > 1 ? Integer.parseInt(args[1]) : 0;
        int wrong = 0;
        for (int run = offset; run < offset + runs && wrong < 5; run++) {
            if (!new Run(run).agrees()) {
                wrong++;
            }
        }
        System.out.println(wrong == 0 ? "all runs agree" : wrong + " runs do not agree");
        if (wrong != 0) {
            System.exit(1);
        }
    }

    /** Draws that are the same each time. */
    private static final class Draws {
        private long state;

        Draws(long seed) {
            state = seed * 0x9E3779B97F4A7C15L + 12345;
            below(2);
            below(2);
        }

        int below(int n) {
            state = state * 6364136223846793005L + 1442695040888963407L;
            return (int) Math.floorMod(state >>> 33, (long) n);
        }

        int of(int... all) {
            return all[below(all.length)];
        }

        boolean once(int in) {
            return below(in) == 0;
        }
    }

    private static final class Run {
        private final int number;
        private final Draws draws;
        private final HillSchool x = new HillSchool();
        private final Model model = new Model();
        private final List<String> calls = new ArrayList<>();
        private final boolean small;
        private int wrong = 0;

        Run(int number) {
            this.number = number;
            draws = new Draws(number + 1);
            small = number % 3 != 0;
        }

        boolean agrees() {
            if (number % 4 == 3) {
                searches();
                return wrong == 0;
            }
            for (int n = 0; calls.size() < CALLS - MOST_AT_ONCE && wrong == 0; n++) {
                call(n);
            }
            return wrong == 0;
        }

        /** Small hills with laws by which each carrying tires otherwise; then all that is searched. */
        private void searches() {
            int many = draws.of(2, 3, 3, 3, 4);
            for (int column = 0; column < many; column++) {
                due("column()", x.column(), model.column());
                due("parish(" + column + ")", x.parish(column), model.parish(column));
            }
            int stones = many == 4 ? draws.of(3, 4) : draws.of(3, 4, 5);
            for (int stone = 0; stone < stones; stone++) {
                int column = draws.below(many);
                int weight = 1 + draws.below(9);
                due("stone(" + column + ", " + weight + ")", x.stone(column, weight), model.stone(column, weight));
            }
            for (int child = draws.below(3); child >= 0; child--) {
                int strength = 5 + draws.below(9);
                due("child(" + strength + ")", x.child(strength), model.child(strength));
            }
            while (calls.size() < CALLS - 4 * MOST_AT_ONCE && wrong == 0) {
                if (!draws.once(4)) {
                    text(lawOfMany());
                    int law = draws.below(Math.max(1, model.now.laws.size()));
                    due("force(" + law + ")", x.force(law), model.force(law));
                }
                due("terms(2, 2)", x.terms(2, 2), model.terms(2, 2));
                goals();
                for (int sort = 0; sort < 3; sort++) {
                    int length = model.plan(sort, NONE, 0);
                    for (int i = NONE; i <= Math.min(length, 7); i++) {
                        for (int what = 0; what < (i == NONE ? 1 : 3); what++) {
                            due("plan(" + sort + ", " + i + ", " + what + ")",
                                    x.plan(sort, i, what), model.plan(sort, i, what));
                        }
                    }
                }
                duels(1 + draws.below(3), draws.below(2));
                move(draws.of(3, 5, 7));
            }
        }

        /** What it tells is as by draws, of all that it can ask. */
        private String lawOfMany() {
            StringBuilder sum = new StringBuilder("term");
            for (String word : Model.WORDS) {
                sum.append("+").append(word).append("*").append(draws.of(0, 1, 5, 17, 31, 43, 77));
            }
            int modulus = draws.of(3, 5, 9, 20, 60, 100);
            String least = draws.of(0, 1) == 0 ? "" : "; bars if weight*3+from*5+to=[weight*3+from*5+to]/7*7";
            return "tires " + sum + "-[" + sum + "]/" + modulus + "*" + modulus + least;
        }

        private void duels(int turns, int first) {
            for (int what = -1; what < 4; what++) {
                due("duel(" + turns + ", " + first + ", " + what + ")",
                        x.duel(turns, first, what), model.duel(turns, first, what));
            }
        }

        private void due(String call, int got, int want) {
            calls.add(call + " = " + got);
            if (got == want) {
                return;
            }
            wrong++;
            System.out.println("run " + number + ":");
            for (String one : calls) {
                System.out.println("  " + one);
            }
            System.out.println("  due is " + want);
        }

        private int columnNumber() {
            if (draws.once(25)) {
                return draws.of(-1, -2, 11, 12, 13, Integer.MAX_VALUE, Integer.MIN_VALUE);
            }
            int many = model.now.columns.size();
            return draws.below(Math.max(1, many + (draws.once(10) ? 1 : 0)));
        }

        private int childNumber() {
            if (draws.once(25)) {
                return draws.of(-1, -2, 5, 6, Integer.MAX_VALUE, Integer.MIN_VALUE);
            }
            int many = model.now.strengths.size();
            return draws.below(Math.max(1, many + (draws.once(10) ? 1 : 0)));
        }

        private int stoneWeight() {
            return draws.once(20) ? draws.of(-1, 0, 31, 30, 255) : 1 + draws.below(draws.of(3, 8, 30));
        }

        private void call(int n) {
            if (n < 14 && n % 4 == 0) {
                due("column()", x.column(), model.column());
                return;
            }
            if (n < 14 && n % 4 == 1) {
                newChild();
                return;
            }
            if (n < 14) {
                newStone();
                return;
            }
            int kind = draws.below(34);
            if (kind < 12) {
                change(kind);
            } else if (kind < 24) {
                move(kind - 12);
            } else {
                ask(kind - 24);
            }
            if (draws.once(4)) {
                due("status()", x.status(), model.status);
            }
        }

        private void newChild() {
            int strength = draws.once(15) ? draws.of(0, 61, -5) : 5 + draws.below(draws.of(10, 30, 55));
            due("child(" + strength + ")", x.child(strength), model.child(strength));
        }

        private void newStone() {
            int column = columnNumber();
            int weight = stoneWeight();
            if (!small || model.stones() < 5 || draws.once(12)) {
                due("stone(" + column + ", " + weight + ")", x.stone(column, weight), model.stone(column, weight));
            } else {
                due("lift(" + column + ")", x.lift(column), model.lift(column));
            }
        }

        private void change(int kind) {
            switch (kind) {
                case 0:
                    if (!small || model.now.columns.size() < 4 || draws.once(60)) {
                        due("column()", x.column(), model.column());
                    } else {
                        due("rain(1, 1)", x.rain(1, 1), model.rain(1, 1));
                    }
                    break;
                case 1:
                case 2:
                case 3:
                    newStone();
                    break;
                case 4:
                    if (draws.once(3)) {
                        newChild();
                    } else {
                        int child = childNumber();
                        int is = draws.of(0, 0, 0, 1, 0, 0, 0, 0, 0, 0, 0, 2, -1);
                        due("expel(" + child + ", " + is + ")", x.expel(child, is), model.expel(child, is));
                    }
                    break;
                case 5:
                    int place = columnNumber();
                    due("parish(" + place + ")", x.parish(place), model.parish(place));
                    break;
                case 6:
                    int what = draws.of(0, 1, 2, 3, 0, 1, 2, 3, 4, -1);
                    int value = draws.once(6) ? draws.of(-1, 0, 9, 10, 30, 31, 99, 100) : 1 + draws.below(4);
                    due("terms(" + what + ", " + value + ")", x.terms(what, value), model.terms(what, value));
                    break;
                case 7:
                case 8:
                    newLaw();
                    break;
                case 9:
                    int law = draws.once(3) ? draws.of(-1, -1, -1, -1, -2, 6, 5)
                            : draws.below(Math.max(1, model.now.laws.size()));
                    due("force(" + law + ")", x.force(law), model.force(law));
                    break;
                case 10:
                    newRow();
                    break;
                default:
                    imageOrBack();
                    break;
            }
        }

        private void imageOrBack() {
            int k = draws.of(0, 1, 0, 1, 0, 1, 2, -1);
            if (draws.once(2)) {
                due("image(" + k + ")", x.image(k), model.image(k));
            } else {
                due("back(" + k + ")", x.back(k), model.back(k));
            }
        }

        private void newRow() {
            if (draws.once(3)) {
                tape(new int[0]);
            } else {
                int[] row = new int[1 + draws.below(small ? 3 : 14)];
                row[0] = draws.once(8) ? draws.of(200, 12, 255) : draws.below(Math.max(1, model.now.columns.size()));
                for (int i = 1; i < row.length; i++) {
                    row[i] = draws.once(6) ? draws.of(0, 31, 128, 255) : 1 + draws.below(30);
                }
                tape(row);
            }
            due("row()", x.row(), model.row());
            due("gravel()", x.gravel(), model.gravel);
        }

        private void newLaw() {
            StringBuilder text = new StringBuilder();
            clauses(text);
            if (text.length() > 400) {
                text.setLength(400);
            }
            if (draws.once(5)) {
                for (int k = draws.below(3); k >= 0 && text.length() > 0; k--) {
                    spoil(text);
                }
            }
            text(text.toString());
        }

        private void text(String text) {
            int[] bytes = new int[text.length()];
            for (int i = 0; i < bytes.length; i++) {
                bytes[i] = text.charAt(i);
            }
            tape(bytes);
            calls.add("text: " + text);
            due("law()", x.law(), model.law());
            due("fault()", x.fault(), model.fault);
        }

        private void spoil(StringBuilder text) {
            int at = draws.below(text.length());
            String signs = "  ;()[]+-*/<>=.0159aoZ\u0007\u00e9";
            switch (draws.below(4)) {
                case 0:
                    text.deleteCharAt(at);
                    break;
                case 1:
                    text.setCharAt(at, signs.charAt(draws.below(signs.length())));
                    break;
                case 2:
                    if (text.length() < 400) {
                        text.insert(at, signs.charAt(draws.below(signs.length())));
                    }
                    break;
                default:
                    text.setLength(at);
                    break;
            }
        }

        private void clauses(StringBuilder text) {
            int many = draws.once(12) ? 11 + draws.below(4) : 1 + draws.below(4);
            for (int k = 0; k < many; k++) {
                if (k > 0) {
                    text.append(draws.once(2) ? ";" : " ; ");
                }
                if (draws.once(many > 10 ? 20 : 5)) {
                    text.append(draws.once(3) ? "bars" : "bars ");
                    if (!draws.once(30)) {
                        text.append(text.charAt(text.length() - 1) == ' ' ? "if " : " if ");
                        test(text, 0);
                    }
                } else {
                    text.append("tires ");
                    sum(text, 0);
                    if (draws.once(2)) {
                        text.append(" if ");
                        test(text, 0);
                    }
                }
            }
        }

        private void test(StringBuilder text, int depth) {
            int many = draws.of(1, 1, 1, 2, 2, 3);
            for (int k = 0; k < many; k++) {
                if (k > 0) {
                    text.append(draws.once(2) ? " or " : " and ");
                }
                while (draws.once(4)) {
                    text.append("not ");
                }
                if (draws.once(4) && depth < 9) {
                    int deep = draws.once(12) ? 1 + draws.below(9) : 1;
                    for (int b = 0; b < deep; b++) {
                        text.append("(");
                    }
                    test(text, depth + deep);
                    for (int b = 0; b < deep; b++) {
                        text.append(")");
                    }
                } else {
                    sum(text, depth);
                    text.append(draws.of('<', '>', '=') == '<' ? "<" : draws.once(2) ? ">" : "=");
                    sum(text, depth);
                }
            }
        }

        private void sum(StringBuilder text, int depth) {
            int many = draws.of(1, 1, 1, 2, 2, 3, 4);
            if (draws.once(60)) {
                many = 40 + draws.below(20);
            }
            for (int k = 0; k < many; k++) {
                if (k > 0) {
                    String[] signs = {"+", "-", "*", "/", " + ", " - "};
                    text.append(signs[draws.below(signs.length)]);
                }
                if (draws.once(6) && depth < 9) {
                    int deep = draws.once(12) ? 1 + draws.below(9) : 1;
                    for (int b = 0; b < deep; b++) {
                        text.append("[");
                    }
                    sum(text, depth + deep);
                    for (int b = 0; b < deep; b++) {
                        text.append("]");
                    }
                } else if (draws.once(2)) {
                    text.append(draws.once(9) ? draws.of(1000, 1000, 1000, 1000, 1000, 1000, 1000, 1001, 999) : draws.below(7));
                } else {
                    text.append(Model.WORDS[draws.below(Model.WORDS.length)]);
                }
            }
        }

        /** Bytes for the tape, which is empty or not. */
        private void tape(int[] bytes) {
            if (!draws.once(12)) {
                due("end(0)", x.end(0), model.end(0));
            }
            int had = model.tape.size();
            for (int i = 0; i < bytes.length; i += 20) {
                int[] five = new int[5];
                for (int k = 0; k < 20; k++) {
                    five[k / 4] = five[k / 4] << 8 | (i + k < bytes.length ? bytes[i + k] : draws.below(256));
                }
                due("feed(" + five[0] + ", " + five[1] + ", " + five[2] + ", " + five[3] + ", " + five[4] + ")",
                        x.feed(five[0], five[1], five[2], five[3], five[4]),
                        model.feed(five[0], five[1], five[2], five[3], five[4]));
            }
            int end = draws.once(40) ? draws.of(-1, 401, had) : had + bytes.length;
            due("end(" + end + ")", x.end(end), model.end(end));
        }

        private void move(int kind) {
            int child = childNumber();
            int a = columnNumber();
            int b = columnNumber();
            for (int n = 0; n < 8 && !draws.once(6) && model.can(child, a, b) != 1; n++) {
                child = childNumber();
                a = columnNumber();
                b = columnNumber();
            }
            int c = draws.once(4) ? b : columnNumber();
            for (int n = 0; n < 8 && !draws.once(6) && model.can(child, c, a) != 1; n++) {
                c = columnNumber();
            }
            switch (kind) {
                case 0:
                    due("can(" + child + ", " + a + ", " + b + ")", x.can(child, a, b), model.can(child, a, b));
                    break;
                case 1:
                case 2:
                    due("tires(" + child + ", " + a + ", " + b + ")", x.tires(child, a, b), model.tires(child, a, b));
                    break;
                case 3:
                case 4:
                    due("carry(" + child + ", " + a + ", " + b + ")", x.carry(child, a, b), model.carry(child, a, b));
                    break;
                case 5:
                case 6:
                    due("exchange(" + child + ", " + a + ", " + b + ", " + c + ")",
                            x.exchange(child, a, b, c), model.exchange(child, a, b, c));
                    break;
                case 7:
                    due("steep()", x.steep(), model.steep());
                    if (draws.once(3)) {
                        due("slide()", x.slide(), model.slide());
                    }
                    break;
                case 8:
                    int parish = draws.below(8) - 2;
                    due("shade(" + parish + ")", x.shade(parish), model.shade(parish));
                    break;
                case 9:
                    int gainer = draws.once(8) ? draws.below(9) - 2 : draws.below(Math.max(1, model.now.parishes.size()));
                    due("gains(" + gainer + ", " + child + ", " + a + ", " + b + ")",
                            x.gains(gainer, child, a, b), model.gains(gainer, child, a, b));
                    break;
                case 10:
                    int height = draws.once(6) ? draws.below(14) - 2 : draws.of(-1, -1, 0, 0, 1, 1, 2, 2, 3, 4, 5);
                    due("goal(" + a + ", " + height + ")", x.goal(a, height), model.goal(a, height));
                    break;
                default:
                    plans();
                    break;
            }
        }

        /** Heights that can be, most times. */
        private void goals() {
            int left = model.stones();
            for (int column = 0; column < model.now.columns.size() && column < 4; column++) {
                int height = draws.once(3) ? NONE : draws.below(Math.max(0, Math.min(left, 10)) + 1);
                if (column == model.now.columns.size() - 1 && draws.once(2)) {
                    height = Math.min(left, 10);
                }
                left -= Math.max(0, height);
                due("goal(" + column + ", " + height + ")", x.goal(column, height), model.goal(column, height));
            }
        }

        private void plans() {
            if (!draws.once(5)) {
                goals();
            }
            int sort = draws.once(20) ? draws.of(-1, 3) : draws.below(3);
            int many = x.plan(sort, NONE, 0);
            due("plan(" + sort + ", -1, 0)", many, model.plan(sort, NONE, 0));
            for (int k = draws.once(2) ? 0 : 9; k < 8; k++) {
                int i = draws.once(9) ? draws.of(-2, 9, 60) : k / 3;
                int what = draws.once(9) ? draws.of(-1, 3) : k % 3;
                due("plan(" + sort + ", " + i + ", " + what + ")", x.plan(sort, i, what), model.plan(sort, i, what));
            }
        }

        private void ask(int kind) {
            int column = columnNumber();
            switch (kind) {
                case 0:
                    int i = draws.below(8) - 2;
                    due("of(" + column + ", " + i + ")", x.of(column, i), model.of(column, i));
                    break;
                case 1:
                    due("weight(" + column + ")", x.weight(column), model.weight(column));
                    break;
                case 2:
                    int child = childNumber();
                    int what = draws.below(5) - 1;
                    due("fact(" + child + ", " + what + ")", x.fact(child, what), model.fact(child, what));
                    break;
                case 3:
                    int weight = draws.once(9) ? draws.of(-1, 3600, 3601) : draws.below(small ? 40 : 300);
                    due("weighs(" + weight + ")", x.weighs(weight), model.weighs(weight));
                    break;
                case 4:
                    int who = childNumber();
                    int trips = draws.once(9) ? draws.of(-1, 20, 21) : draws.below(5);
                    due("trips(" + who + ", " + trips + ")", x.trips(who, trips), model.trips(who, trips));
                    break;
                case 5:
                    suspects();
                    break;
                case 6:
                    int turns = draws.once(9) ? draws.of(0, 5, -1) : 1 + draws.below(draws.once(3) ? 4 : 2);
                    int first = draws.once(20) ? draws.of(-1, 2) : draws.below(2);
                    duels(turns, first);
                    break;
                case 7:
                    due("layers(" + column + ")", x.layers(column), model.layers(column));
                    break;
                case 8:
                    rains();
                    break;
                default:
                    int which = draws.below(19) - 2;
                    due("count(" + which + ")", x.count(which), model.count(which));
                    break;
            }
        }

        private void suspects() {
            int ounces = draws.once(9) ? draws.of(0, 10) : draws.of(1, 1, 2, 3, 9);
            int more = draws.once(9) ? draws.of(-1, 1000, 999) : draws.below(5) * draws.of(ounces, ounces, 1);
            for (int what = -1; what < 6; what++) {
                due("culprits(" + ounces + ", " + more + ", " + what + ")",
                        x.culprits(ounces, more, what), model.culprits(ounces, more, what));
            }
        }

        private void rains() {
            int seed = draws.once(9) ? draws.of(-1, 1_000_000, 1_000_001) : draws.below(1_000_001);
            int days = draws.once(9) ? draws.of(0, 40, 41) : 1 + draws.below(40);
            due("rain(" + seed + ", " + days + ")", x.rain(seed, days), model.rain(seed, days));
            for (int k = 0; k < 4; k++) {
                int column = columnNumber();
                int what = draws.once(9) ? draws.of(-1, 2) : draws.below(2);
                due("rained(" + column + ", " + what + ")", x.rained(column, what), model.rained(column, what));
            }
        }
    }

    /** A number, a test that is broken. */
    private static final class Broken extends Exception {
        private static final long serialVersionUID = 1;
    }

    /** A text of a law: where it can't go on, and what it tells. */
    private static final class Text {
        private final List<String> tokens = new ArrayList<>();
        private final List<Integer> places = new ArrayList<>();
        private final int length;

        Text(List<Integer> bytes) {
            length = bytes.size();
            int at = 0;
            while (at < length) {
                int kind = kind(bytes.get(at));
                int end = at + 1;
                while (kind > 1 && end < length && kind(bytes.get(end)) == kind) {
                    end++;
                }
                if (kind != 0) {
                    StringBuilder token = new StringBuilder();
                    for (int i = at; i < end; i++) {
                        token.append((char) (int) bytes.get(i));
                    }
                    tokens.add(token.toString());
                    places.add(at);
                }
                at = end;
            }
        }

        private static int kind(int sign) {
            if (sign == 32) {
                return 0;
            }
            return sign >= 'a' && sign <= 'z' ? 2 : sign >= '0' && sign <= '9' ? 3 : 1;
        }

        private enum Due { CLAUSE, BARRED, PART, TOLD, PLAIN, SIDE, SIDES, TESTED }

        /** Goes from token to token, knowing what is due, the open brackets, what the sum is for. */
        int fault() {
            Due due = Due.CLAUSE;
            Due behindSum = Due.TOLD;
            ArrayDeque<Character> open = new ArrayDeque<>();
            int clauses = 0;
            int parts = 0;
            for (int i = 0; i <= tokens.size(); i++) {
                boolean ends = i == tokens.size();
                String token = ends ? "" : tokens.get(i);
                int place = ends ? length : places.get(i);
                if (due == Due.CLAUSE) {
                    clauses++;
                    if (clauses > 12 || !token.equals("tires") && !token.equals("bars")) {
                        return place;
                    }
                    due = token.equals("bars") ? Due.BARRED : Due.PART;
                    behindSum = Due.TOLD;
                    continue;
                }
                if (due == Due.PLAIN) {
                    if (token.equals("not")) {
                        continue;
                    }
                    if (token.equals("(")) {
                        if (open.size() == 8) {
                            return place;
                        }
                        open.push('(');
                        continue;
                    }
                    due = Due.PART;
                    behindSum = Due.SIDE;
                }
                if (due == Due.PART) {
                    if (token.equals("[")) {
                        if (open.size() == 8) {
                            return place;
                        }
                        open.push('[');
                        continue;
                    }
                    boolean number = !ends && Character.isDigit(token.charAt(0)) && token.charAt(0) < 128;
                    boolean good = number && new BigInteger(token).compareTo(BigInteger.valueOf(1000)) <= 0
                            || Arrays.asList(Model.WORDS).contains(token);
                    parts++;
                    if (!good || parts > 50) {
                        return place;
                    }
                    due = behindSum;
                    continue;
                }
                boolean inSum = !open.isEmpty() && open.peek() == '[';
                if (due != Due.BARRED && due != Due.TESTED) {
                    if (!ends && "+-*/".contains(token)) {
                        due = Due.PART;
                        continue;
                    }
                    if (inSum) {
                        if (!token.equals("]")) {
                            return place;
                        }
                        open.pop();
                        continue;
                    }
                }
                if (due == Due.SIDE) {
                    if (ends || !"<>=".contains(token)) {
                        return place;
                    }
                    behindSum = Due.SIDES;
                    due = Due.PART;
                    continue;
                }
                boolean tested = due == Due.SIDES || due == Due.TESTED;
                if (tested && (token.equals("and") || token.equals("or"))) {
                    due = Due.PLAIN;
                    continue;
                }
                if (tested && !open.isEmpty()) {
                    if (!token.equals(")")) {
                        return place;
                    }
                    open.pop();
                    due = Due.TESTED;
                    continue;
                }
                if (!tested && token.equals("if")) {
                    due = Due.PLAIN;
                    continue;
                }
                if (ends) {
                    return NONE;
                }
                if (!token.equals(";")) {
                    return place;
                }
                due = Due.CLAUSE;
            }
            return NONE;
        }

        /** {whether it is barred, how it tires}. */
        int[] tells(int[] words) {
            int[] told = {0, Math.abs(words[3] - words[4])};
            for (List<String> clause : cut(tokens, ";")) {
                int at = clause.indexOf("if");
                List<String> head = at < 0 ? clause : clause.subList(0, at);
                try {
                    if (at >= 0 && !test(clause.subList(at + 1, clause.size()), words)) {
                        continue;
                    }
                    if (head.get(0).equals("bars")) {
                        told[0] = 1;
                    } else {
                        told[1] = (int) Math.max(0, Math.min(99, sum(head.subList(1, head.size()), words)));
                    }
                } catch (Broken broken) {
                    continue;
                }
            }
            return told;
        }

        /** Cut at a token outside of brackets. */
        private static List<List<String>> cut(List<String> all, String at) {
            List<List<String>> pieces = new ArrayList<>();
            int depth = 0;
            int start = 0;
            for (int i = 0; i <= all.size(); i++) {
                if (i == all.size() || depth == 0 && all.get(i).equals(at)) {
                    pieces.add(all.subList(start, i));
                    start = i + 1;
                } else if (all.get(i).equals("(") || all.get(i).equals("[")) {
                    depth++;
                } else if (all.get(i).equals(")") || all.get(i).equals("]")) {
                    depth--;
                }
            }
            return pieces;
        }

        private static boolean test(List<String> all, int[] words) throws Broken {
            for (List<String> both : cut(all, "or")) {
                boolean so = true;
                for (List<String> plain : cut(both, "and")) {
                    if (!plain(plain, words)) {
                        so = false;
                        break;
                    }
                }
                if (so) {
                    return true;
                }
            }
            return false;
        }

        private static boolean plain(List<String> all, int[] words) throws Broken {
            if (all.get(0).equals("not")) {
                return !plain(all.subList(1, all.size()), words);
            }
            if (all.get(0).equals("(")) {
                return test(all.subList(1, all.size() - 1), words);
            }
            for (String sign : new String[] {"<", ">", "="}) {
                List<List<String>> sides = cut(all, sign);
                if (sides.size() == 2) {
                    long left = sum(sides.get(0), words);
                    long right = sum(sides.get(1), words);
                    return sign.equals("<") ? left < right : sign.equals(">") ? left > right : left == right;
                }
            }
            throw new IllegalStateException("no comparison in " + all);
        }

        private static int lastOf(List<String> all, String signs) {
            int depth = 0;
            for (int i = all.size() - 1; i >= 0; i--) {
                String token = all.get(i);
                if (depth == 0 && signs.contains(token)) {
                    return i;
                }
                depth += token.equals("]") ? 1 : token.equals("[") ? -1 : 0;
            }
            return -1;
        }

        private static long sum(List<String> all, int[] words) throws Broken {
            int at = lastOf(all, "+-");
            if (at < 0) {
                at = lastOf(all, "*/");
            }
            if (at < 0) {
                if (all.get(0).equals("[")) {
                    return sum(all.subList(1, all.size() - 1), words);
                }
                int word = Arrays.asList(Model.WORDS).indexOf(all.get(0));
                return word >= 0 ? words[word] : Long.parseLong(all.get(0));
            }
            long left = sum(all.subList(0, at), words);
            long right = sum(all.subList(at + 1, all.size()), words);
            String sign = all.get(at);
            if (sign.equals("/") && right == 0) {
                throw new Broken();
            }
            long value = sign.equals("+") ? left + right : sign.equals("-") ? left - right
                    : sign.equals("*") ? left * right : left / right;
            if (Math.abs(value) > 1_000_000_000L) {
                throw new Broken();
            }
            return value;
        }
    }

    /** What an image keeps. */
    private static final class Kept {
        private List<List<Integer>> columns = new ArrayList<>();
        private List<Integer> strengths = new ArrayList<>();
        private List<Integer> expelled = new ArrayList<>();
        private List<Integer> trips = new ArrayList<>();
        private List<Integer> parishes = new ArrayList<>();
        private List<Integer> goals = new ArrayList<>();
        private List<Text> laws = new ArrayList<>();
        private int[] terms = {0, 1, 3, 1};
        private int force = NONE;

        Kept copy() {
            Kept copy = new Kept();
            copy.columns = deep(columns);
            copy.strengths = new ArrayList<>(strengths);
            copy.expelled = new ArrayList<>(expelled);
            copy.trips = new ArrayList<>(trips);
            copy.parishes = new ArrayList<>(parishes);
            copy.goals = new ArrayList<>(goals);
            copy.laws = new ArrayList<>(laws);
            copy.terms = terms.clone();
            copy.force = force;
            return copy;
        }
    }

    private static List<List<Integer>> deep(List<List<Integer>> columns) {
        List<List<Integer>> copy = new ArrayList<>();
        for (List<Integer> column : columns) {
            copy.add(new ArrayList<>(column));
        }
        return copy;
    }

    private static final class Model {
        static final String[] WORDS = {"child", "strength", "weight", "from", "to", "high", "low", "term"};
        private Kept now = new Kept();
        private final Kept[] images = new Kept[2];
        private final List<Integer> tape = new ArrayList<>();
        private int fault = NONE;
        private int gravel = 0;
        private List<List<Integer>> rained = null;
        private final Map<Integer, Integer> refusals = new HashMap<>();
        private int status = 0;

        private int no(int by) {
            status = by;
            refusals.merge(by, 1, Integer::sum);
            return by;
        }

        private int yes(int answer) {
            status = 0;
            return answer;
        }

        private boolean isColumn(int... all) {
            for (int column : all) {
                if (column < 0 || column >= now.columns.size()) {
                    return false;
                }
            }
            return true;
        }

        private boolean isChild(int child) {
            return child >= 0 && child < now.strengths.size();
        }

        int column() {
            if (now.columns.size() == 12) {
                return no(-5);
            }
            now.columns.add(new ArrayList<>());
            now.goals.add(NONE);
            return yes(now.columns.size() - 1);
        }

        int stone(int column, int weight) {
            if (weight < 1 || weight > 30) {
                return no(-1);
            }
            if (!isColumn(column)) {
                return no(-2);
            }
            if (now.columns.get(column).size() == 10) {
                return no(-5);
            }
            now.columns.get(column).add(weight);
            return yes(now.columns.get(column).size());
        }

        int lift(int column) {
            if (!isColumn(column)) {
                return no(-2);
            }
            if (now.columns.get(column).isEmpty()) {
                return no(-3);
            }
            return yes(pop(now.columns.get(column)));
        }

        private static int pop(List<Integer> column) {
            return column.remove(column.size() - 1);
        }

        private static int top(List<Integer> column) {
            return column.get(column.size() - 1);
        }

        private static int sum(List<Integer> column) {
            int sum = 0;
            for (int weight : column) {
                sum += weight;
            }
            return sum;
        }

        int stones() {
            int sum = 0;
            for (List<Integer> column : now.columns) {
                sum += column.size();
            }
            return sum;
        }

        int of(int column, int i) {
            if (!isColumn(column)) {
                return NONE;
            }
            List<Integer> stones = now.columns.get(column);
            return i == NONE ? stones.size() : i >= 0 && i < stones.size() ? stones.get(i) : NONE;
        }

        int weight(int column) {
            return isColumn(column) ? sum(now.columns.get(column)) : NONE;
        }

        int child(int strength) {
            if (strength < 1 || strength > 60) {
                return no(-1);
            }
            if (now.strengths.size() == 6) {
                return no(-5);
            }
            now.strengths.add(strength);
            now.expelled.add(0);
            now.trips.add(0);
            return yes(now.strengths.size() - 1);
        }

        int expel(int child, int is) {
            if (is != 0 && is != 1) {
                return no(-1);
            }
            return isChild(child) ? yes(now.expelled.set(child, is)) : no(-2);
        }

        int fact(int child, int what) {
            if (!isChild(child)) {
                return NONE;
            }
            return what == 0 ? now.strengths.get(child) : what == 1 ? now.expelled.get(child)
                    : what == 2 ? now.trips.get(child) : NONE;
        }

        int parish(int column) {
            if (!isColumn(column)) {
                return no(-2);
            }
            if (now.parishes.size() == 6) {
                return no(-5);
            }
            now.parishes.add(column);
            return yes(now.parishes.size() - 1);
        }

        int terms(int what, int value) {
            boolean good = what == 0 && value >= 0 && value <= 99 || (what == 1 || what == 2) && value >= 1 && value <= 9
                    || what == 3 && value >= 0 && value <= 30;
            if (!good) {
                return no(-1);
            }
            int was = now.terms[what];
            now.terms[what] = value;
            return yes(was);
        }

        int feed(int... five) {
            if (tape.size() > 380) {
                return NONE;
            }
            for (int four : five) {
                for (int k = 3; k >= 0; k--) {
                    tape.add((int) ((four & 0xffffffffL) / (1L << 8 * k) % 256));
                }
            }
            return tape.size();
        }

        int end(int n) {
            if (n < 0 || n > tape.size()) {
                return NONE;
            }
            tape.subList(n, tape.size()).clear();
            return n;
        }

        int row() {
            List<Integer> bytes = new ArrayList<>(tape);
            tape.clear();
            if (bytes.isEmpty() || !isColumn(bytes.get(0))) {
                return no(-6);
            }
            List<Integer> column = now.columns.get(bytes.get(0));
            int came = 0;
            gravel = 0;
            for (int weight : bytes.subList(1, bytes.size())) {
                if (weight < 1 || weight > 30 || column.size() == 10) {
                    gravel++;
                } else {
                    column.add(weight);
                    came++;
                }
            }
            return yes(came);
        }

        int law() {
            List<Integer> bytes = new ArrayList<>(tape);
            tape.clear();
            if (now.laws.size() == 6) {
                return no(-5);
            }
            Text text = new Text(bytes);
            fault = text.fault();
            if (fault != NONE) {
                return no(-6);
            }
            now.laws.add(text);
            return yes(now.laws.size() - 1);
        }

        int force(int law) {
            if (law != NONE && (law < 0 || law >= now.laws.size())) {
                return no(-2);
            }
            int was = now.force;
            now.force = law;
            return yes(was);
        }

        /** How a carrying tires on some columns; NONE, if it can't be. */
        private int effort(List<List<Integer>> columns, int child, int from, int to) {
            if (columns.get(from).isEmpty() || columns.get(to).size() == 10 || from == to
                    || now.expelled.get(child) == 1) {
                return NONE;
            }
            int weight = top(columns.get(from));
            if (now.strengths.get(child) < weight) {
                return NONE;
            }
            if (now.force == NONE) {
                return Math.abs(from - to);
            }
            int[] words = {child, now.strengths.get(child), weight, from, to,
                columns.get(from).size(), columns.get(to).size(), now.terms[0]};
            int[] told = now.laws.get(now.force).tells(words);
            return told[0] == 1 ? NONE : told[1];
        }

        int can(int child, int from, int to) {
            if (!isChild(child) || !isColumn(from, to)) {
                return NONE;
            }
            return effort(now.columns, child, from, to) == NONE ? 0 : 1;
        }

        int tires(int child, int from, int to) {
            return isChild(child) && isColumn(from, to) ? effort(now.columns, child, from, to) : NONE;
        }

        int carry(int child, int from, int to) {
            if (!isChild(child) || !isColumn(from, to)) {
                return no(-2);
            }
            if (effort(now.columns, child, from, to) == NONE) {
                return no(-3);
            }
            int weight = pop(now.columns.get(from));
            now.columns.get(to).add(weight);
            return yes(weight);
        }

        int exchange(int child, int a, int b, int c) {
            if (!isChild(child) || !isColumn(a, b, c)) {
                return no(-2);
            }
            List<List<Integer>> paper = deep(now.columns);
            if (effort(paper, child, a, b) == NONE) {
                return no(-3);
            }
            int up = pop(paper.get(a));
            paper.get(b).add(up);
            if (effort(paper, child, c, a) == NONE) {
                return no(-3);
            }
            int down = pop(paper.get(c));
            paper.get(a).add(down);
            int unlike = Math.max(up, down) - Math.min(up, down);
            if (unlike < now.terms[3]) {
                return no(-3);
            }
            now.columns = paper;
            return yes(unlike);
        }

        private boolean steepBeside(List<List<Integer>> columns, int column, int next) {
            return next >= 0 && next < columns.size()
                    && columns.get(column).size() > columns.get(next).size() + now.terms[2];
        }

        private int steepOf(List<List<Integer>> columns) {
            for (int column = 0; column < columns.size(); column++) {
                if (steepBeside(columns, column, column - 1) || steepBeside(columns, column, column + 1)) {
                    return column;
                }
            }
            return NONE;
        }

        private int slides(List<List<Integer>> columns) {
            int many = 0;
            while (steepOf(columns) != NONE) {
                int column = steepOf(columns);
                int next = steepBeside(columns, column, column - 1) ? column - 1 : column + 1;
                columns.get(next).add(pop(columns.get(column)));
                many++;
            }
            return many;
        }

        int steep() {
            return steepOf(now.columns);
        }

        int slide() {
            return slides(now.columns);
        }

        private int shadeOf(List<List<Integer>> columns, int parish) {
            int at = now.parishes.get(parish);
            int most = 0;
            for (int column = 0; column < columns.size(); column++) {
                int shade = columns.get(column).size() - now.terms[1] * Math.abs(at - column);
                most = shade > most ? shade : most;
            }
            return most;
        }

        private int shades(List<List<Integer>> columns) {
            int sum = 0;
            for (int parish = 0; parish < now.parishes.size(); parish++) {
                sum += shadeOf(columns, parish);
            }
            return sum;
        }

        int shade(int parish) {
            if (parish == NONE) {
                return shades(now.columns);
            }
            return parish >= 0 && parish < now.parishes.size() ? shadeOf(now.columns, parish) : NONE;
        }

        int gains(int parish, int child, int from, int to) {
            if (parish < 0 || parish >= now.parishes.size() || can(child, from, to) != 1) {
                return NOTHING;
            }
            List<List<Integer>> paper = deep(now.columns);
            paper.get(to).add(pop(paper.get(from)));
            return shadeOf(now.columns, parish) - shadeOf(paper, parish);
        }

        int goal(int column, int height) {
            if (height < NONE || height > 10) {
                no(-1);
                return NOTHING;
            }
            if (!isColumn(column)) {
                no(-2);
                return NOTHING;
            }
            return yes(now.goals.set(column, height));
        }

        /** What was left of a plan when it was asked last, until something changes. */
        private String planFor = "";
        private List<int[]> plan = null;
        private int planSum = 0;

        int plan(int sort, int i, int what) {
            if (sort < 0 || sort > 2 || now.columns.size() > 4 || stones() > 5) {
                return NONE;
            }
            String asked = sort + " " + now.columns + now.goals + now.strengths + now.expelled + now.force
                    + (now.force == NONE ? "" : now.laws.get(now.force).tokens) + Arrays.toString(now.terms);
            if (!asked.equals(planFor)) {
                planFor = asked;
                plan = planned(sort);
            }
            if (plan == null) {
                return NONE;
            }
            if (i == NONE) {
                return sort == 2 ? planSum : plan.size();
            }
            return i >= 0 && i < plan.size() && what >= 0 && what < 3 ? plan.get(i)[what] : NONE;
        }

        private boolean goalsAreSo(List<List<Integer>> columns) {
            for (int column = 0; column < columns.size(); column++) {
                if (now.goals.get(column) != NONE && now.goals.get(column) != columns.get(column).size()) {
                    return false;
                }
            }
            return true;
        }

        /** From, to, child, where it goes, what it costs. */
        private List<Object[]> steps(List<List<Integer>> at, int sort, Map<String, List<List<Integer>>> states) {
            List<Object[]> steps = new ArrayList<>();
            for (int from = 0; from < at.size(); from++) {
                for (int to = 0; to < at.size(); to++) {
                    for (int child = 0; child < now.strengths.size(); child++) {
                        int effort = effort(at, child, from, to);
                        if (effort == NONE) {
                            continue;
                        }
                        List<List<Integer>> next = deep(at);
                        next.get(to).add(pop(next.get(from)));
                        if (sort == 1 && steepOf(next) != NONE) {
                            continue;
                        }
                        states.putIfAbsent(next.toString(), next);
                        steps.add(new Object[] {from, to, child, next.toString(), sort == 2 ? effort : 0});
                    }
                }
            }
            return steps;
        }

        /** The least left from each state is made better till it can't be; then the lowest are taken. */
        private List<int[]> planned(int sort) {
            Map<String, List<List<Integer>>> states = new HashMap<>();
            Map<String, List<Object[]>> steps = new HashMap<>();
            ArrayDeque<String> open = new ArrayDeque<>();
            String here = now.columns.toString();
            states.put(here, deep(now.columns));
            open.add(here);
            while (!open.isEmpty()) {
                String at = open.remove();
                if (!steps.containsKey(at)) {
                    steps.put(at, steps(states.get(at), sort, states));
                    for (Object[] step : steps.get(at)) {
                        open.add((String) step[3]);
                    }
                }
            }
            Map<String, Long> left = new HashMap<>();
            for (String at : states.keySet()) {
                if (goalsAreSo(states.get(at))) {
                    left.put(at, 0L);
                }
            }
            boolean better = true;
            while (better) {
                better = false;
                for (String at : states.keySet()) {
                    for (Object[] step : steps.get(at)) {
                        Long behind = left.get(step[3]);
                        if (behind != null && (!left.containsKey(at) || behind + cost(step) < left.get(at))) {
                            left.put(at, behind + cost(step));
                            better = true;
                        }
                    }
                }
            }
            if (!left.containsKey(here)) {
                return null;
            }
            planSum = (int) (left.get(here) / 100_000);
            List<int[]> row = new ArrayList<>();
            while (left.get(here) != 0) {
                for (Object[] step : steps.get(here)) {
                    if (left.containsKey(step[3]) && left.get(step[3]) + cost(step) == left.get(here)) {
                        row.add(new int[] {(int) step[0], (int) step[1], (int) step[2]});
                        here = (String) step[3];
                        break;
                    }
                }
            }
            return row;
        }

        private static long cost(Object[] step) {
            return (int) step[4] * 100_000L + 1;
        }

        int weighs(int weight) {
            if (weight < 0 || weight > 3600) {
                return NONE;
            }
            Map<Integer, BigInteger> sets = new HashMap<>();
            sets.put(0, BigInteger.ONE);
            for (List<Integer> column : now.columns) {
                for (int stone : column) {
                    Map<Integer, BigInteger> more = new HashMap<>(sets);
                    for (Map.Entry<Integer, BigInteger> set : sets.entrySet()) {
                        more.merge(set.getKey() + stone, set.getValue(), BigInteger::add);
                    }
                    sets = more;
                }
            }
            return sets.getOrDefault(weight, BigInteger.ZERO).min(BigInteger.valueOf(1_000_000_000)).intValue();
        }

        int trips(int child, int trips) {
            if (trips < 0 || trips > 20) {
                return no(-1);
            }
            return isChild(child) ? yes(now.trips.set(child, trips)) : no(-2);
        }

        int culprits(int ounces, int more, int what) {
            if (ounces < 1 || ounces > 9 || more < 0 || more > 999 || what < 0 || what > 4) {
                return NONE;
            }
            int children = now.strengths.size();
            List<Integer> sets = new ArrayList<>();
            for (int set = 0; set < 1 << children; set++) {
                int weighs = 0;
                for (int child = 0; child < children; child++) {
                    weighs += (set & 1 << child) != 0 ? ounces * now.trips.get(child) : 0;
                }
                if (weighs == more) {
                    sets.add(set);
                }
            }
            if (what == 0 || sets.isEmpty()) {
                return what == 0 ? 0 + sets.size() : NONE;
            }
            if (what == 1) {
                return sets.get(0);
            }
            int inAll = 0;
            int inNone = 0;
            int best = NONE;
            int fewest = 1000;
            for (int child = 0; child < children; child++) {
                int with = 0;
                for (int set : sets) {
                    with += set >> child & 1;
                }
                inAll += with == sets.size() ? 1 << child : 0;
                inNone += with == 0 ? 1 << child : 0;
                int worst = Math.max(with, sets.size() - with);
                if (worst < fewest) {
                    fewest = worst;
                    best = child;
                }
            }
            return what == 2 ? inAll : what == 3 ? inNone : best;
        }

        int duel(int turns, int first, int what) {
            if (turns < 1 || turns > 4 || first < 0 || first > 1 || what < 0 || what > 2 || now.columns.size() > 4) {
                return NONE;
            }
            return best(now.columns, turns, first)[what];
        }

        private int[] best(List<List<Integer>> columns, int turns, int school) {
            if (turns == 0) {
                return new int[] {shades(columns), NONE, NONE};
            }
            int[] best = null;
            for (int from = 0; from < columns.size(); from++) {
                for (int to = 0; to < columns.size(); to++) {
                    boolean can = false;
                    for (int child = 0; child < now.strengths.size() && !can; child++) {
                        can = effort(columns, child, from, to) != NONE;
                    }
                    if (!can) {
                        continue;
                    }
                    List<List<Integer>> next = deep(columns);
                    next.get(to).add(pop(next.get(from)));
                    int sum = best(next, turns - 1, 1 - school)[0];
                    if (best == null || (school == 0 ? sum > best[0] : sum < best[0])) {
                        best = new int[] {sum, from, to};
                    }
                }
            }
            return best != null ? best : new int[] {best(columns, turns - 1, 1 - school)[0], NONE, NONE};
        }

        int layers(int column) {
            return isColumn(column) ? fewestParts(now.columns.get(column)) : NONE;
        }

        /** Every lowest part that can be is tried. */
        private static int fewestParts(List<Integer> stones) {
            int fewest = stones.size();
            for (int end = 1; end <= stones.size(); end++) {
                if (end > 1 && stones.get(end - 1) > stones.get(end - 2)) {
                    break;
                }
                fewest = Math.min(fewest, 1 + fewestParts(stones.subList(end, stones.size())));
            }
            return fewest;
        }

        int rain(int seed, int n) {
            if (seed < 0 || seed > 1_000_000 || n < 1 || n > 40) {
                return no(-1);
            }
            List<List<Integer>> paper = deep(now.columns);
            rained = paper;
            long s = seed;
            int away = 0;
            for (int day = 0; day < n && !paper.isEmpty(); day++) {
                s = (s * 1103 + 12345) % 1_000_003;
                int column = (int) (s % paper.size());
                if (!paper.get(column).isEmpty()) {
                    int stone = pop(paper.get(column));
                    if (column + 1 < paper.size() && paper.get(column + 1).size() < 10) {
                        paper.get(column + 1).add(stone);
                    } else {
                        away++;
                    }
                }
                slides(paper);
            }
            return yes(away);
        }

        int rained(int column, int what) {
            if (rained == null || column < 0 || column >= rained.size() || what < 0 || what > 1) {
                return NONE;
            }
            return what == 0 ? rained.get(column).size() : sum(rained.get(column));
        }

        int image(int k) {
            if (k != 0 && k != 1) {
                return no(-1);
            }
            images[k] = now.copy();
            return yes(0);
        }

        int back(int k) {
            if (k != 0 && k != 1) {
                return no(-1);
            }
            if (images[k] == null) {
                return no(-2);
            }
            now = images[k].copy();
            return yes(0);
        }

        int count(int what) {
            int[] by = {-1, -2, -3, -5, -6};
            switch (what) {
                case 0: return now.columns.size();
                case 1: return stones();
                case 2: return now.strengths.size();
                case 3: return now.parishes.size();
                case 4: return now.laws.size();
                case 5: return tape.size();
                case 6: case 7: case 8: case 9: case 10: return refusals.getOrDefault(by[what - 6], 0);
                case 11: return now.force;
                case 12: case 13: case 14: case 15: return now.terms[what - 12];
                default: return NONE;
            }
        }
    }
}
