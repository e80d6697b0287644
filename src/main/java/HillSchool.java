import java.util.Arrays;

/**
 * A hill of columns of stones that a school of children moves, under laws of their own.
 *
 * <p>Every row that a call needs is made once, in the constructors, and used again by every call.
 */
public final class HillSchool {
    /** There is none. */
    public static final int NONE = -1;
    /** What is not there, where it could be below 0. */
    public static final int NOTHING = -1000;

    private static final int WRONG_NUMBER = -1;
    private static final int NO_SUCH = -2;
    private static final int CANNOT_BE = -3;
    private static final int NO_ROOM = -5;
    private static final int UNREADABLE = -6;

    private static final int MOST_COLUMNS = 12;
    private static final int MOST_STONES = 10;
    private static final int HEAVIEST = 30;
    private static final int MOST_CHILDREN = 6;
    private static final int STRONGEST = 60;
    private static final int MOST_PARISHES = 6;
    private static final int MOST_TRIPS = 20;
    private static final int TERM = 0;
    private static final int SLOPE = 1;
    private static final int STEEP = 2;
    private static final int OUNCE = 3;
    private static final int[] LEAST_TERMS = {0, 1, 1, 0};
    private static final int[] MOST_TERMS = {99, 9, 9, 30};
    private static final int[] FIRST_TERMS = {0, 1, 3, 1};
    private static final int MOST_TAPE = 400;
    private static final int FED_AT_ONCE = 20;
    private static final int MOST_LAWS = 6;
    private static final int IMAGES = 2;
    /** Columns that the searches on paper take at most. */
    private static final int FEW_COLUMNS = 4;

    private final Hill hill = new Hill();
    private final Hill[] images = {new Hill(), new Hill()};
    private final boolean[] kept = new boolean[IMAGES];
    private final int[] tape = new int[MOST_TAPE];
    private int taped = 0;
    private int latestFault = NONE;
    private int latestGravel = 0;
    /** How many calls were refused, by the number that refused them, its sign turned. */
    private final int[] refusals = new int[-UNREADABLE + 1];
    private int latestStatus = 0;
    private final LawReader reader = new LawReader();
    private final Judge judge = new Judge(hill);
    private final Carriers carriers = new Carriers(hill, judge);
    private final Planner planner = new Planner(hill, carriers);
    private final Schools schools = new Schools(hill, carriers);
    private final Scales scales = new Scales(hill);
    private final Paper paper = new Paper();

    /** Promise 1: no columns. */
    public HillSchool() {
    }

    /** Promise 2: a column to the right. */
    public int column() {
        if (!hill.columns.grow()) {
            return refuse(NO_ROOM);
        }
        int number = hill.columns.many - 1;
        hill.goals[number] = NONE;
        return accept(number);
    }

    /** Promise 3: a stone on top of a column. */
    public int stone(int column, int weight) {
        if (weight < 1 || weight > HEAVIEST) {
            return refuse(WRONG_NUMBER);
        }
        if (!hill.columns.has(column)) {
            return refuse(NO_SUCH);
        }
        if (!hill.columns.put(column, weight)) {
            return refuse(NO_ROOM);
        }
        return accept(hill.columns.high(column));
    }

    /** Promise 4: the top stone is taken away. */
    public int lift(int column) {
        if (!hill.columns.has(column)) {
            return refuse(NO_SUCH);
        }
        if (hill.columns.high(column) == 0) {
            return refuse(CANNOT_BE);
        }
        return accept(hill.columns.take(column));
    }

    /** Promise 5: how many stones a column has, or the weight of one. */
    public int of(int column, int i) {
        if (!hill.columns.has(column)) {
            return NONE;
        }
        if (i == NONE) {
            return hill.columns.high(column);
        }
        if (i < 0 || i >= hill.columns.high(column)) {
            return NONE;
        }
        return hill.columns.heft(column, i);
    }

    /** Promise 6: the weights of a column together. */
    public int weight(int column) {
        return hill.columns.has(column) ? hill.columns.load(column) : NONE;
    }

    /** Promise 7: a child. */
    public int child(int strength) {
        if (strength < 1 || strength > STRONGEST) {
            return refuse(WRONG_NUMBER);
        }
        if (hill.children >= MOST_CHILDREN) {
            return refuse(NO_ROOM);
        }
        return accept(hill.enroll(strength));
    }

    /** Promise 8: a child is expelled, or is not. */
    public int expel(int child, int is) {
        if (is < 0 || is > 1) {
            return refuse(WRONG_NUMBER);
        }
        if (!hill.hasChild(child)) {
            return refuse(NO_SUCH);
        }
        int was = hill.expelled[child];
        hill.expelled[child] = is;
        return accept(was);
    }

    /** Promise 9: what is known of a child. */
    public int fact(int child, int what) {
        if (!hill.hasChild(child)) {
            return NONE;
        }
        switch (what) {
            case 0:
                return hill.strengths[child];
            case 1:
                return hill.expelled[child];
            case 2:
                return hill.trips[child];
            default:
                return NONE;
        }
    }

    /** Promise 10: a parish at a column. */
    public int parish(int column) {
        if (!hill.columns.has(column)) {
            return refuse(NO_SUCH);
        }
        if (hill.parishes >= MOST_PARISHES) {
            return refuse(NO_ROOM);
        }
        int number = hill.parishes;
        hill.places[number] = column;
        hill.parishes++;
        return accept(number);
    }

    /** Promise 11: a term. */
    public int terms(int what, int value) {
        if (what < 0 || what >= FIRST_TERMS.length
                || value < LEAST_TERMS[what] || value > MOST_TERMS[what]) {
            return refuse(WRONG_NUMBER);
        }
        int was = hill.terms[what];
        hill.terms[what] = value;
        return accept(was);
    }

    /** Promise 12: twenty bytes behind the tape. */
    public int feed(int a, int b, int c, int d, int e) {
        if (taped + FED_AT_ONCE > MOST_TAPE) {
            return NONE;
        }
        feedFour(a);
        feedFour(b);
        feedFour(c);
        feedFour(d);
        feedFour(e);
        return taped;
    }

    /** Promise 13: the tape's first bytes alone. */
    public int end(int n) {
        if (n < 0 || n > taped) {
            return NONE;
        }
        taped = n;
        return n;
    }

    /** Promise 14: a row of stones from the tape. */
    public int row() {
        int length = taped;
        taped = 0;
        if (length == 0 || !hill.columns.has(tape[0])) {
            return refuse(UNREADABLE);
        }
        int came = 0;
        for (int i = 1; i < length; i++) {
            int weight = tape[i];
            if (weight >= 1 && weight <= HEAVIEST && hill.columns.put(tape[0], weight)) {
                came++;
            }
        }
        latestGravel = length - 1 - came;
        return accept(came);
    }

    /** Promise 15: the gravel of the latest row. */
    public int gravel() {
        return latestGravel;
    }

    /** Promise 16: the tape becomes a law. */
    public int law() {
        int length = taped;
        taped = 0;
        if (hill.laws >= MOST_LAWS) {
            return refuse(NO_ROOM);
        }
        latestFault = reader.read(tape, length);
        if (latestFault != NONE) {
            return refuse(UNREADABLE);
        }
        return accept(hill.enact(reader));
    }

    /** Promise 17: where the latest text could not go on. */
    public int fault() {
        return latestFault;
    }

    /** Promise 18: a law is in force. */
    public int force(int law) {
        if (law != NONE && (law < 0 || law >= hill.laws)) {
            return refuse(NO_SUCH);
        }
        int was = hill.inForce;
        hill.inForce = law;
        return accept(was);
    }

    /** Promise 19: whether a carrying can be. */
    public int can(int child, int from, int to) {
        if (!knows(child, from, to)) {
            return NONE;
        }
        return judge.effortOn(hill.columns, child, from, to) == NONE ? 0 : 1;
    }

    /** Promise 20: how a carrying tires. */
    public int tires(int child, int from, int to) {
        return knows(child, from, to) ? judge.effortOn(hill.columns, child, from, to) : NONE;
    }

    /** Promise 21: a carrying. */
    public int carry(int child, int from, int to) {
        if (!knows(child, from, to)) {
            return refuse(NO_SUCH);
        }
        if (judge.effortOn(hill.columns, child, from, to) == NONE) {
            return refuse(CANNOT_BE);
        }
        int weight = hill.columns.top(from);
        hill.columns.move(from, to);
        return accept(weight);
    }

    /** Promise 22: up one and down one of unlike weight. */
    public int exchange(int child, int a, int b, int c) {
        if (!knows(child, a, b) || !hill.columns.has(c)) {
            return refuse(NO_SUCH);
        }
        if (judge.effortOn(hill.columns, child, a, b) == NONE) {
            return refuse(CANNOT_BE);
        }
        int up = hill.columns.top(a);
        hill.columns.move(a, b);
        int unlike = Math.abs(up - hill.columns.top(c));
        if (judge.effortOn(hill.columns, child, c, a) == NONE || unlike < hill.terms[OUNCE]) {
            hill.columns.move(b, a);
            return refuse(CANNOT_BE);
        }
        hill.columns.move(c, a);
        return accept(unlike);
    }

    /** Promise 23: the lowest column that slides next. */
    public int steep() {
        return hill.columns.lowestSteep(hill.terms[STEEP]);
    }

    /** Promise 24: slides. */
    public int slide() {
        hill.changes++;
        return hill.columns.settle(hill.terms[STEEP]);
    }

    /** Promise 25: the shade at a parish, or at all of them together. */
    public int shade(int parish) {
        if (parish == NONE) {
            return hill.shades(hill.columns);
        }
        return hill.hasParish(parish) ? hill.shadeOf(hill.columns, parish) : NONE;
    }

    /** Promise 26: what a parish gains by a carrying. */
    public int gains(int parish, int child, int from, int to) {
        if (!hill.hasParish(parish) || !knows(child, from, to)
                || judge.effortOn(hill.columns, child, from, to) == NONE) {
            return NOTHING;
        }
        int before = hill.shadeOf(hill.columns, parish);
        hill.columns.move(from, to);
        int then = hill.shadeOf(hill.columns, parish);
        hill.columns.move(to, from);
        return before - then;
    }

    /** Promise 27: a goal of a column. */
    public int goal(int column, int height) {
        if (height < NONE || height > MOST_STONES) {
            refuse(WRONG_NUMBER);
            return NOTHING;
        }
        if (!hill.columns.has(column)) {
            refuse(NO_SUCH);
            return NOTHING;
        }
        int was = hill.goals[column];
        hill.goals[column] = height;
        return accept(was);
    }

    /** Promise 28: the first row of carryings of a sort. */
    public int plan(int sort, int i, int what) {
        if (sort < 0 || sort > Planner.LEAST_TIRING || !planner.isSmall()) {
            return NONE;
        }
        Plan plan = planner.planned(sort);
        if (i == NONE || plan.length == NONE) {
            return sort == Planner.LEAST_TIRING ? plan.tiring : plan.length;
        }
        return plan.piece(i, what);
    }

    /** Promise 29: how many sets of stones weigh so much. */
    public int weighs(int weight) {
        return scales.sets(weight);
    }

    /** Promise 30: the trips of a child. */
    public int trips(int child, int trips) {
        if (trips < 0 || trips > MOST_TRIPS) {
            return refuse(WRONG_NUMBER);
        }
        if (!hill.hasChild(child)) {
            return refuse(NO_SUCH);
        }
        int was = hill.trips[child];
        hill.trips[child] = trips;
        return accept(was);
    }

    /** Promise 31: in whose pockets the gravel is. */
    public int culprits(int ounces, int more, int what) {
        if (ounces < 1 || ounces > Scales.MOST_OUNCES || more < 0 || more > Scales.MOST_MORE) {
            return NONE;
        }
        scales.suspect(ounces, more);
        return scales.finding(what);
    }

    /** Promise 32: two schools by turns. */
    public int duel(int turns, int first, int what) {
        if (turns < 1 || turns > Schools.MOST_TURNS || first < 0 || first > 1
                || hill.columns.many > FEW_COLUMNS) {
            return NONE;
        }
        return schools.outcome(turns, first, what);
    }

    /** Promise 33: the layers of a column. */
    public int layers(int column) {
        return hill.columns.has(column) ? scales.layersOf(column) : NONE;
    }

    /** Promise 34: rain, on paper. */
    public int rain(int seed, int n) {
        if (seed < 0 || seed > Paper.MOST_SEED || n < 1 || n > Paper.MOST_DAYS) {
            return refuse(WRONG_NUMBER);
        }
        return accept(paper.pour(hill.columns, hill.terms[STEEP], seed, n));
    }

    /** Promise 35: what the latest rain left. */
    public int rained(int column, int what) {
        if (!paper.columns.has(column) || what < 0 || what > 1) {
            return NONE;
        }
        return what == 0 ? paper.columns.high(column) : paper.columns.load(column);
    }

    /** Promise 36: an image is kept. */
    public int image(int k) {
        if (k < 0 || k >= IMAGES) {
            return refuse(WRONG_NUMBER);
        }
        images[k].become(hill);
        kept[k] = true;
        return accept(0);
    }

    /** Promise 37: back to an image. */
    public int back(int k) {
        if (k < 0 || k >= IMAGES) {
            return refuse(WRONG_NUMBER);
        }
        if (!kept[k]) {
            return refuse(NO_SUCH);
        }
        hill.become(images[k]);
        return accept(0);
    }

    /** Promise 38: how many there are. */
    public int count(int what) {
        switch (what) {
            case 0:
                return hill.columns.many;
            case 1:
                return hill.columns.stones();
            case 2:
                return hill.children;
            case 3:
                return hill.parishes;
            case 4:
                return hill.laws;
            case 5:
                return taped;
            case 6:
                return refusals[-WRONG_NUMBER];
            case 7:
                return refusals[-NO_SUCH];
            case 8:
                return refusals[-CANNOT_BE];
            case 9:
                return refusals[-NO_ROOM];
            case 10:
                return refusals[-UNREADABLE];
            case 11:
                return hill.inForce;
            case 12:
                return hill.terms[TERM];
            case 13:
                return hill.terms[SLOPE];
            case 14:
                return hill.terms[STEEP];
            case 15:
                return hill.terms[OUNCE];
            default:
                return NONE;
        }
    }

    /** Promise 39: what the latest call was refused by. */
    public int status() {
        return latestStatus;
    }

    private int refuse(int by) {
        latestStatus = by;
        refusals[-by]++;
        return by;
    }

    private int accept(int answer) {
        latestStatus = 0;
        hill.changes++;
        return answer;
    }

    private void feedFour(int bytes) {
        for (int shift = 24; shift >= 0 && taped < MOST_TAPE; shift -= 8) {
            tape[taped] = (bytes >>> shift) & 255;
            taped++;
        }
    }

    private boolean knows(int child, int from, int to) {
        return hill.hasChild(child) && hill.columns.has(from) && hill.columns.has(to);
    }

    /** Columns of stones, those of the hill itself or some on paper. */
    private static final class Columns {
        /** Every slide makes the sum of the squared heights less by 2 at least; it is 1,200 at most. */
        private static final int MOST_SLIDES = 600;

        private int many = 0;
        private final int[] heights = new int[MOST_COLUMNS];
        private final int[] weights = new int[MOST_COLUMNS * MOST_STONES];

        boolean has(int column) {
            return column >= 0 && column < many;
        }

        boolean grow() {
            if (many >= MOST_COLUMNS) {
                return false;
            }
            heights[many] = 0;
            many++;
            return true;
        }

        int high(int column) {
            return has(column) ? heights[column] : 0;
        }

        /** The weight of the i-th stone from the ground; 0 where there is none. */
        int heft(int column, int i) {
            return i >= 0 && i < high(column) ? weights[column * MOST_STONES + i] : 0;
        }

        int top(int column) {
            int high = high(column);
            return high > 0 ? weights[column * MOST_STONES + high - 1] : 0;
        }

        int load(int column) {
            int sum = 0;
            for (int i = 0; i < high(column); i++) {
                sum += heft(column, i);
            }
            return sum;
        }

        int stones() {
            int sum = 0;
            for (int column = 0; column < many; column++) {
                sum += heights[column];
            }
            return sum;
        }

        boolean put(int column, int weight) {
            if (!has(column) || heights[column] >= MOST_STONES) {
                return false;
            }
            weights[column * MOST_STONES + heights[column]] = weight;
            heights[column]++;
            return true;
        }

        int take(int column) {
            int weight = top(column);
            if (high(column) > 0) {
                heights[column]--;
            }
            return weight;
        }

        void move(int from, int to) {
            if (high(from) > 0 && put(to, top(from))) {
                heights[from]--;
            }
        }

        boolean isSteep(int column, int next, int steep) {
            return has(column) && has(next) && heights[column] - heights[next] > steep;
        }

        int lowestSteep(int steep) {
            for (int column = 0; column < many; column++) {
                if (isSteep(column, column - 1, steep) || isSteep(column, column + 1, steep)) {
                    return column;
                }
            }
            return NONE;
        }

        int settle(int steep) {
            for (int slides = 0; slides < MOST_SLIDES; slides++) {
                int column = lowestSteep(steep);
                if (column == NONE) {
                    return slides;
                }
                move(column, isSteep(column, column - 1, steep) ? column - 1 : column + 1);
            }
            return MOST_SLIDES;
        }

        int shadeAt(int place, int slope) {
            int most = 0;
            for (int column = 0; column < many; column++) {
                most = Math.max(most, heights[column] - slope * Math.abs(column - place));
            }
            return most;
        }

        void become(Columns other) {
            many = other.many;
            System.arraycopy(other.heights, 0, heights, 0, heights.length);
            System.arraycopy(other.weights, 0, weights, 0, weights.length);
        }
    }

    /** All that an image keeps. */
    private static final class Hill {
        private final Columns columns = new Columns();
        private int children = 0;
        private final int[] strengths = new int[MOST_CHILDREN];
        private final int[] expelled = new int[MOST_CHILDREN];
        private final int[] trips = new int[MOST_CHILDREN];
        private int parishes = 0;
        private final int[] places = new int[MOST_PARISHES];
        private final int[] terms = FIRST_TERMS.clone();
        private final int[] goals = new int[MOST_COLUMNS];
        private int laws = 0;
        private final int[] orders = new int[MOST_LAWS * LawReader.MOST_ORDERS];
        private final int[] ordered = new int[MOST_LAWS];
        private int inForce = NONE;
        /** What was worked out is as it was while this number stays; an image does not keep it. */
        private int changes = 0;

        boolean hasChild(int child) {
            return child >= 0 && child < children;
        }

        boolean hasParish(int parish) {
            return parish >= 0 && parish < parishes;
        }

        int enroll(int strength) {
            int number = children;
            if (number >= MOST_CHILDREN) {
                return NONE;
            }
            strengths[number] = strength;
            expelled[number] = 0;
            trips[number] = 0;
            children++;
            return number;
        }

        int enact(LawReader reader) {
            int number = laws;
            if (number >= MOST_LAWS) {
                return NONE;
            }
            System.arraycopy(reader.orders, 0, orders, number * LawReader.MOST_ORDERS, reader.ordered);
            ordered[number] = reader.ordered;
            laws++;
            return number;
        }

        boolean isAble(int child, int weight) {
            return hasChild(child) && expelled[child] == 0 && strengths[child] >= weight;
        }

        int shadeOf(Columns at, int parish) {
            return hasParish(parish) ? at.shadeAt(places[parish], terms[SLOPE]) : 0;
        }

        int shades(Columns at) {
            int sum = 0;
            for (int parish = 0; parish < parishes; parish++) {
                sum += shadeOf(at, parish);
            }
            return sum;
        }

        void become(Hill other) {
            columns.become(other.columns);
            children = other.children;
            System.arraycopy(other.strengths, 0, strengths, 0, strengths.length);
            System.arraycopy(other.expelled, 0, expelled, 0, expelled.length);
            System.arraycopy(other.trips, 0, trips, 0, trips.length);
            parishes = other.parishes;
            System.arraycopy(other.places, 0, places, 0, places.length);
            System.arraycopy(other.terms, 0, terms, 0, terms.length);
            System.arraycopy(other.goals, 0, goals, 0, goals.length);
            laws = other.laws;
            System.arraycopy(other.orders, 0, orders, 0, orders.length);
            System.arraycopy(other.ordered, 0, ordered, 0, ordered.length);
            inForce = other.inForce;
        }
    }

    /**
     * Reads the text of a law into orders for a judge, who has a pile of numbers.
     *
     * <p>An order is its sort and, from ORDER_BITS on, the number that goes with it.
     */
    private static final class LawReader {
        /** Every order but two of a clause stands for a byte of the text at least. */
        private static final int MOST_ORDERS = 424;
        private static final int ORDER_BITS = 4;
        private static final int ORDER_MASK = 15;
        private static final int CLAUSE = 0;
        private static final int NUMBER = 1;
        private static final int WORD = 2;
        private static final int ADD = 3;
        private static final int SUBTRACT = 4;
        private static final int MULTIPLY = 5;
        private static final int DIVIDE = 6;
        private static final int LESS = 7;
        private static final int MORE = 8;
        private static final int SAME = 9;
        private static final int NOT = 10;
        private static final int AND = 11;
        private static final int OR = 12;
        private static final int TIRES = 13;
        private static final int BARS = 14;

        private static final int MOST_CLAUSES = 12;
        private static final int MOST_PARTS = 50;
        private static final int MOST_BRACKETS = 8;
        private static final int MOST_NUMBER = 1000;

        /** Tokens; below 256 is a sign, the byte itself. */
        private static final int TOKEN_NO_USE = 256;
        private static final int TOKEN_END = 257;
        private static final int TOKEN_NUMBER = 258;
        private static final int TOKEN_WORD = 259;
        private static final int TOKEN_TIRES = 260;
        private static final int TOKEN_BARS = 261;
        private static final int TOKEN_IF = 262;
        private static final int TOKEN_OR = 263;
        private static final int TOKEN_AND = 264;
        private static final int TOKEN_NOT = 265;

        private final int[] orders = new int[MOST_ORDERS];
        private int ordered = 0;
        private final int[] tokens = new int[MOST_TAPE + 1];
        private final int[] places = new int[MOST_TAPE + 1];
        /** The number, the number of the word of a token that is one. */
        private final int[] values = new int[MOST_TAPE + 1];
        private int at = 0;
        private int parts = 0;

        /** The place of the first token that can't go on; NONE if the text is a law. */
        int read(int[] text, int length) {
            split(text, Math.max(0, Math.min(length, Math.min(MOST_TAPE, text.length))));
            ordered = 0;
            parts = 0;
            at = 0;
            for (int n = 0; n < MOST_CLAUSES && readClause(); n++) {
                if (tokens[at] == TOKEN_END) {
                    return NONE;
                }
                if (!pass(';')) {
                    break;
                }
            }
            return places[at];
        }

        private boolean readClause() {
            int head = order(CLAUSE, 0);
            boolean tells = pass(TOKEN_TIRES);
            if (tells ? !readSum(0) : !pass(TOKEN_BARS)) {
                return false;
            }
            if (!pass(TOKEN_IF)) {
                order(NUMBER, 1);
            } else if (!readTest(0)) {
                return false;
            }
            order(tells ? TIRES : BARS, 0);
            aimHere(head);
            return true;
        }

        private boolean readTest(int brackets) {
            int latestAnd = NONE;
            int latestOr = NONE;
            for (int n = 0; n < MOST_TAPE && readPlain(brackets); n++) {
                aimHere(latestAnd);
                latestAnd = NONE;
                if (pass(TOKEN_AND)) {
                    latestAnd = order(AND, 0);
                    continue;
                }
                aimHere(latestOr);
                if (!pass(TOKEN_OR)) {
                    return true;
                }
                latestOr = order(OR, 0);
            }
            return false;
        }

        private boolean readPlain(int brackets) {
            boolean turned = false;
            for (int n = 0; n < MOST_TAPE && pass(TOKEN_NOT); n++) {
                turned = !turned;
            }
            if (tokens[at] == '(') {
                if (brackets >= MOST_BRACKETS || !pass('(') || !readTest(brackets + 1) || !pass(')')) {
                    return false;
                }
            } else {
                if (!readSum(brackets)) {
                    return false;
                }
                int comparison = comparisonOf(tokens[at]);
                if (comparison == NONE || !pass(tokens[at]) || !readSum(brackets)) {
                    return false;
                }
                order(comparison, 0);
            }
            if (turned) {
                order(NOT, 0);
            }
            return true;
        }

        private static int comparisonOf(int token) {
            switch (token) {
                case '<':
                    return LESS;
                case '>':
                    return MORE;
                case '=':
                    return SAME;
                default:
                    return NONE;
            }
        }

        private boolean readSum(int brackets) {
            int factor = NONE;
            int summand = NONE;
            for (int n = 0; n < MOST_TAPE && readPart(brackets); n++) {
                if (factor != NONE) {
                    order(factor, 0);
                }
                factor = pass('*') ? MULTIPLY : pass('/') ? DIVIDE : NONE;
                if (factor != NONE) {
                    continue;
                }
                if (summand != NONE) {
                    order(summand, 0);
                }
                summand = pass('+') ? ADD : pass('-') ? SUBTRACT : NONE;
                if (summand == NONE) {
                    return true;
                }
            }
            return false;
        }

        private boolean readPart(int brackets) {
            if (tokens[at] == '[') {
                return brackets < MOST_BRACKETS && pass('[') && readSum(brackets + 1) && pass(']');
            }
            boolean isNumber = tokens[at] == TOKEN_NUMBER;
            if (!isNumber && tokens[at] != TOKEN_WORD || parts >= MOST_PARTS) {
                return false;
            }
            parts++;
            order(isNumber ? NUMBER : WORD, values[at]);
            return pass(tokens[at]);
        }

        private boolean pass(int token) {
            if (tokens[at] != token || at >= MOST_TAPE) {
                return false;
            }
            at++;
            return true;
        }

        /** Its place. */
        private int order(int sort, int number) {
            if (ordered >= MOST_ORDERS) {
                return NONE;
            }
            orders[ordered] = number << ORDER_BITS | sort;
            ordered++;
            return ordered - 1;
        }

        /** What goes with an order (if there is one) becomes the place of the next one. */
        private void aimHere(int place) {
            if (place >= 0 && place < ordered) {
                orders[place] = ordered << ORDER_BITS | orders[place] & ORDER_MASK;
            }
        }

        private void split(int[] text, int length) {
            int many = 0;
            int next = 0;
            for (int start = 0; start < length; start++) {
                if (start < next || text[start] == ' ') {
                    continue;
                }
                next = start + 1;
                while (next < length && isLetter(text[start]) && isLetter(text[next])
                        || next < length && isDigit(text[start]) && isDigit(text[next])) {
                    next++;
                }
                places[many] = start;
                note(text, start, next, many);
                many++;
            }
            places[many] = length;
            tokens[many] = TOKEN_END;
        }

        private void note(int[] text, int start, int behind, int token) {
            values[token] = NONE;
            if (isDigit(text[start])) {
                values[token] = numberOf(text, start, behind);
                tokens[token] = values[token] == NONE ? TOKEN_NO_USE : TOKEN_NUMBER;
            } else if (isLetter(text[start])) {
                values[token] = wordOf(text, start, behind);
                tokens[token] = values[token] == NONE ? ruleWordOf(text, start, behind) : TOKEN_WORD;
            } else {
                tokens[token] = text[start] & 255;
            }
        }

        private static boolean isLetter(int sign) {
            return sign >= 'a' && sign <= 'z';
        }

        private static boolean isDigit(int sign) {
            return sign >= '0' && sign <= '9';
        }

        /** NONE, if it is too high. */
        private static int numberOf(int[] text, int start, int behind) {
            int value = 0;
            for (int i = start; i < behind; i++) {
                value = value * 10 + text[i] - '0';
                if (value > MOST_NUMBER) {
                    return NONE;
                }
            }
            return value;
        }

        private static int wordOf(int[] text, int start, int behind) {
            if (isWord("child", text, start, behind)) {
                return Judge.CHILD;
            }
            if (isWord("strength", text, start, behind)) {
                return Judge.STRENGTH;
            }
            if (isWord("weight", text, start, behind)) {
                return Judge.WEIGHT;
            }
            if (isWord("from", text, start, behind)) {
                return Judge.FROM;
            }
            if (isWord("to", text, start, behind)) {
                return Judge.TO;
            }
            if (isWord("high", text, start, behind)) {
                return Judge.HIGH;
            }
            if (isWord("low", text, start, behind)) {
                return Judge.LOW;
            }
            return isWord("term", text, start, behind) ? Judge.TERM_NOW : NONE;
        }

        private static int ruleWordOf(int[] text, int start, int behind) {
            if (isWord("tires", text, start, behind)) {
                return TOKEN_TIRES;
            }
            if (isWord("bars", text, start, behind)) {
                return TOKEN_BARS;
            }
            if (isWord("if", text, start, behind)) {
                return TOKEN_IF;
            }
            if (isWord("or", text, start, behind)) {
                return TOKEN_OR;
            }
            if (isWord("and", text, start, behind)) {
                return TOKEN_AND;
            }
            return isWord("not", text, start, behind) ? TOKEN_NOT : TOKEN_NO_USE;
        }

        private static boolean isWord(String word, int[] text, int start, int behind) {
            if (behind - start != word.length()) {
                return false;
            }
            for (int i = 0; i < word.length(); i++) {
                if (text[start + i] != word.charAt(i)) {
                    return false;
                }
            }
            return true;
        }
    }

    /** Tells of a carrying whether it can be, and how it tires. */
    private static final class Judge {
        private static final int CHILD = 0;
        private static final int STRENGTH = 1;
        private static final int WEIGHT = 2;
        private static final int FROM = 3;
        private static final int TO = 4;
        private static final int HIGH = 5;
        private static final int LOW = 6;
        private static final int TERM_NOW = 7;
        private static final int WORDS = 8;
        private static final int MOST_TIRING = 99;
        private static final long FARTHEST = 1_000_000_000L;
        /** Farther than any number that is not broken. */
        private static final int BROKEN = -2_000_000_000;
        /** Each of 8 brackets leaves two numbers waiting at most, and a few more stand ahead of all. */
        private static final int MOST_PILED = 32;

        private final Hill hill;
        private final int[] words = new int[WORDS];
        private final int[] pile = new int[MOST_PILED];
        private int piled = 0;
        private int tiring = 0;
        private boolean barred = false;

        Judge(Hill hill) {
            this.hill = hill;
        }

        int effortOn(Columns columns, int child, int from, int to) {
            return effort(child, from, to, columns.top(from), columns.high(from), columns.high(to));
        }

        /** How it tires; NONE if it can't be. */
        int effort(int child, int from, int to, int weight, int high, int low) {
            if (high < 1 || low >= MOST_STONES || from == to || !hill.isAble(child, weight)) {
                return NONE;
            }
            tiring = Math.abs(from - to);
            barred = false;
            if (hill.inForce >= 0 && hill.inForce < hill.laws) {
                words[CHILD] = child;
                words[STRENGTH] = hill.strengths[child];
                words[WEIGHT] = weight;
                words[FROM] = from;
                words[TO] = to;
                words[HIGH] = high;
                words[LOW] = low;
                words[TERM_NOW] = hill.terms[TERM];
                hear(hill.inForce * LawReader.MOST_ORDERS, hill.ordered[hill.inForce]);
            }
            return barred ? NONE : tiring;
        }

        /** Follows orders; those ahead of resume are passed over. */
        private void hear(int base, int many) {
            int resume = 0;
            int clauseEnd = 0;
            for (int at = 0; at < many; at++) {
                if (at < resume) {
                    continue;
                }
                int sort = hill.orders[base + at] & LawReader.ORDER_MASK;
                int number = hill.orders[base + at] >> LawReader.ORDER_BITS;
                int so;
                switch (sort) {
                    case LawReader.CLAUSE:
                        piled = 0;
                        clauseEnd = number;
                        break;
                    case LawReader.NUMBER:
                        push(number);
                        break;
                    case LawReader.WORD:
                        push(number >= 0 && number < WORDS ? words[number] : 0);
                        break;
                    case LawReader.NOT:
                        push(1 - pop());
                        break;
                    case LawReader.AND:
                    case LawReader.OR:
                        so = pop();
                        if (so == (sort == LawReader.OR ? 1 : 0)) {
                            push(so);
                            resume = number;
                        }
                        break;
                    case LawReader.TIRES:
                        so = pop();
                        tiring = so == 1 ? Math.max(0, Math.min(MOST_TIRING, pop())) : tiring;
                        break;
                    case LawReader.BARS:
                        barred = pop() == 1 || barred;
                        break;
                    default:
                        so = pop();
                        so = worked(sort, pop(), so);
                        push(so);
                        resume = so == BROKEN ? clauseEnd : resume;
                        break;
                }
            }
        }

        private static int worked(int sort, long left, long right) {
            long value;
            switch (sort) {
                case LawReader.LESS:
                    return left < right ? 1 : 0;
                case LawReader.MORE:
                    return left > right ? 1 : 0;
                case LawReader.SAME:
                    return left == right ? 1 : 0;
                case LawReader.ADD:
                    value = left + right;
                    break;
                case LawReader.SUBTRACT:
                    value = left - right;
                    break;
                case LawReader.MULTIPLY:
                    value = left * right;
                    break;
                default:
                    if (right == 0) {
                        return BROKEN;
                    }
                    value = left / right;
                    break;
            }
            return value > FARTHEST || value < -FARTHEST ? BROKEN : (int) value;
        }

        private void push(int value) {
            if (piled < MOST_PILED) {
                pile[piled] = value;
                piled++;
            }
        }

        private int pop() {
            if (piled <= 0) {
                return 0;
            }
            piled--;
            return pile[piled];
        }
    }

    /**
     * Who carries between two of few columns: the lowest child who can, and the lowest of those whom
     * it tires least. The searches ask the same of the laws again and again, so it is noted.
     */
    private static final class Carriers {
        private static final int NOBODY = 7;
        private static final int CHILD_BITS = 3;
        private static final int NOTE_BITS = 13;
        private static final int NOTE_MASK = (1 << NOTE_BITS) - 1;
        private static final int STAMPS = (1 << 32 - NOTE_BITS) - 1;

        private final Hill hill;
        private final Judge judge;
        private final int[] notes =
                new int[FEW_COLUMNS * FEW_COLUMNS * HEAVIEST * MOST_STONES * MOST_STONES];

        Carriers(Hill hill, Judge judge) {
            this.hill = hill;
            this.judge = judge;
        }

        /** A note of who carries, to be read by the functions below; NONE if nobody can. */
        int note(int from, int to, int weight, int high, int low) {
            if (from < 0 || from >= FEW_COLUMNS || to < 0 || to >= FEW_COLUMNS || from == to
                    || weight < 1 || weight > HEAVIEST
                    || high < 1 || high > MOST_STONES || low < 0 || low >= MOST_STONES) {
                return NONE;
            }
            int pair = from * FEW_COLUMNS + to;
            int place = ((pair * HEAVIEST + weight - 1) * MOST_STONES + high - 1) * MOST_STONES + low;
            int stamp = hill.changes % STAMPS + 1;
            if (notes[place] >>> NOTE_BITS == stamp) {
                int note = notes[place] & NOTE_MASK;
                return lowest(note) == NOBODY ? NONE : note;
            }
            int first = NOBODY;
            int best = NOBODY;
            int least = 0;
            for (int child = 0; child < hill.children; child++) {
                int effort = judge.effort(child, from, to, weight, high, low);
                if (effort == NONE) {
                    continue;
                }
                if (first == NOBODY) {
                    first = child;
                }
                if (best == NOBODY || effort < least) {
                    best = child;
                    least = effort;
                }
            }
            int note = (least << CHILD_BITS | best) << CHILD_BITS | first;
            notes[place] = stamp << NOTE_BITS | note;
            return first == NOBODY ? NONE : note;
        }

        static int lowest(int note) {
            return note & NOBODY;
        }

        static int leastTired(int note) {
            return note >> CHILD_BITS & NOBODY;
        }

        static int tiring(int note) {
            return note >> 2 * CHILD_BITS;
        }
    }

    /** A row of carryings, as it was found. */
    private static final class Plan {
        private int version = NONE;
        private int length = NONE;
        private int tiring = NONE;
        private final int[] row = new int[Planner.MOST_STATES];

        int piece(int i, int what) {
            if (i < 0 || i >= length || i >= row.length) {
                return NONE;
            }
            switch (what) {
                case 0:
                    return row[i] / Planner.CARRYING_FROM;
                case 1:
                    return row[i] / Planner.CARRYING_TO % FEW_COLUMNS;
                case 2:
                    return row[i] % Planner.CARRYING_TO;
                default:
                    return NONE;
            }
        }
    }

    /**
     * Finds the first of the best rows of carryings on a small hill: the state that costs least to
     * come to is gone on from next, and of ways that cost the same the one of lower carryings stays.
     *
     * <p>A state is a number: 15 bits for each column, 3 for each of its stones from the ground; a
     * stone's number is one more than that of its weight among those of the hill.
     */
    private static final class Planner {
        private static final int SAFE = 1;
        private static final int LEAST_TIRING = 2;
        private static final int FEW_STONES = 5;
        /** 5 unlike stones in any order, 3 bounds of columns among them. */
        private static final int MOST_STATES = 6720;
        private static final int SLOTS = 16384;
        private static final int SLOT_BITS = 14;
        private static final long SPREAD = 0x9E3779B97F4A7C15L;
        private static final int STONE_BITS = 3;
        private static final int STONE_MASK = 7;
        private static final int COLUMN_BITS = STONE_BITS * FEW_STONES;
        /** A cost is so many for a tiring and 1 for a carrying, of which no way has so many. */
        private static final long ONE_TIRING = 8192;
        private static final int CARRYING_TO = 8;
        private static final int CARRYING_FROM = CARRYING_TO * FEW_COLUMNS;

        private final Hill hill;
        private final Carriers carriers;
        private final Plan[] plans = {new Plan(), new Plan(), new Plan()};
        private final int[] slots = new int[SLOTS];
        private final long[] states = new long[MOST_STATES];
        private final long[] costs = new long[MOST_STATES];
        private final int[] before = new int[MOST_STATES];
        private final int[] by = new int[MOST_STATES];
        private final int[] queue = new int[MOST_STATES];
        private final int[] queuedAt = new int[MOST_STATES];
        private final int[] weights = new int[FEW_STONES + 1];
        private final int[] heights = new int[FEW_COLUMNS];
        private final int[] tops = new int[FEW_COLUMNS];
        private int kinds;
        private int found;
        private int queued;

        Planner(Hill hill, Carriers carriers) {
            this.hill = hill;
            this.carriers = carriers;
        }

        boolean isSmall() {
            return hill.columns.many <= FEW_COLUMNS && hill.columns.stones() <= FEW_STONES;
        }

        Plan planned(int sort) {
            Plan plan = plans[sort >= 0 && sort < plans.length ? sort : 0];
            if (plan.version != hill.changes) {
                plan.version = hill.changes;
                write(plan, isSmall() && goalsFit() ? search(sort) : NONE);
            }
            return plan;
        }

        /** Whether as many stones as there are can be as high as told at all. */
        private boolean goalsFit() {
            int told = 0;
            boolean all = true;
            for (int column = 0; column < hill.columns.many; column++) {
                told += Math.max(0, hill.goals[column]);
                all = all && hill.goals[column] != NONE;
            }
            int stones = hill.columns.stones();
            return told == stones || told < stones && !all;
        }

        private void write(Plan plan, int last) {
            plan.length = NONE;
            plan.tiring = NONE;
            if (last == NONE) {
                return;
            }
            plan.length = (int) (costs[last] % ONE_TIRING);
            plan.tiring = (int) (costs[last] / ONE_TIRING);
            int state = last;
            for (int i = plan.length - 1; i >= 0 && i < MOST_STATES && state >= 0; i--) {
                plan.row[i] = by[state];
                state = before[state];
            }
        }

        /** The last state of the best row; NONE if there is none. */
        private int search(int sort) {
            Arrays.fill(slots, 0);
            found = 0;
            queued = 0;
            come(firstState(), NONE, 0, 0);
            int best = NONE;
            for (int n = 0; n < MOST_STATES && queued > 0; n++) {
                int here = leave();
                if (best != NONE && costs[here] > costs[best]) {
                    return best;
                }
                look(states[here]);
                if (goalsAreSo()) {
                    if (best == NONE || isEarlier(before[here], by[here], best)) {
                        best = here;
                    }
                } else if (best == NONE) {
                    goOn(here, sort);
                }
            }
            return best;
        }

        private long firstState() {
            kinds = 0;
            long state = 0;
            for (int column = 0; column < hill.columns.many && column < FEW_COLUMNS; column++) {
                int high = Math.min(FEW_STONES, hill.columns.high(column));
                for (int i = 0; i < high; i++) {
                    long stone = kindOf(hill.columns.heft(column, i));
                    state |= stone << COLUMN_BITS * column + STONE_BITS * i;
                }
            }
            return state;
        }

        private int kindOf(int weight) {
            for (int kind = 1; kind <= kinds; kind++) {
                if (weights[kind] == weight) {
                    return kind;
                }
            }
            if (kinds >= FEW_STONES) {
                return kinds;
            }
            kinds++;
            weights[kinds] = weight;
            return kinds;
        }

        private void look(long state) {
            for (int column = 0; column < FEW_COLUMNS; column++) {
                int stones = (int) (state >>> COLUMN_BITS * column) & (1 << COLUMN_BITS) - 1;
                heights[column] = 0;
                tops[column] = 0;
                for (int i = 0; i < FEW_STONES && stones != 0; i++) {
                    heights[column]++;
                    tops[column] = stones & STONE_MASK;
                    stones >>= STONE_BITS;
                }
            }
        }

        private boolean goalsAreSo() {
            for (int column = 0; column < hill.columns.many && column < FEW_COLUMNS; column++) {
                if (hill.goals[column] != NONE && hill.goals[column] != heights[column]) {
                    return false;
                }
            }
            return true;
        }

        private void goOn(int here, int sort) {
            int many = Math.min(FEW_COLUMNS, hill.columns.many);
            for (int from = 0; from < many; from++) {
                int stone = tops[from];
                int weight = stone <= FEW_STONES ? weights[stone] : 0;
                for (int to = 0; to < many && heights[from] > 0; to++) {
                    int note = carriers.note(from, to, weight, heights[from], heights[to]);
                    if (note != NONE && (sort != SAFE || isSafe(from, to, many))) {
                        boolean counts = sort == LEAST_TIRING;
                        int child = counts ? Carriers.leastTired(note) : Carriers.lowest(note);
                        long cost = counts ? 1 + ONE_TIRING * Carriers.tiring(note) : 1;
                        int carrying = from * CARRYING_FROM + to * CARRYING_TO + child;
                        come(carried(states[here], from, to), here, carrying, costs[here] + cost);
                    }
                }
            }
        }

        private boolean isSafe(int from, int to, int many) {
            heights[from]--;
            heights[to]++;
            boolean safe = true;
            for (int column = 1; column < many; column++) {
                safe = safe && Math.abs(heights[column] - heights[column - 1]) <= hill.terms[STEEP];
            }
            heights[from]++;
            heights[to]--;
            return safe;
        }

        private long carried(long state, int from, int to) {
            long stone = tops[from];
            long left = state ^ stone << COLUMN_BITS * from + STONE_BITS * (heights[from] - 1);
            return left | stone << COLUMN_BITS * to + STONE_BITS * heights[to];
        }

        /** A way to a state is kept, if it is the first or a better one. */
        private void come(long state, int from, int carrying, long cost) {
            int slot = slotOf(state);
            if (slot == NONE) {
                return;
            }
            int at = slots[slot] - 1;
            if (at < 0) {
                if (found >= MOST_STATES) {
                    return;
                }
                at = found;
                found++;
                slots[slot] = found;
                states[at] = state;
                queue[queued] = at;
                queuedAt[at] = queued;
                queued++;
            } else if (cost > costs[at] || cost == costs[at] && !isEarlier(from, carrying, at)) {
                return;
            }
            costs[at] = cost;
            before[at] = from;
            by[at] = carrying;
            rise(queuedAt[at]);
        }

        /** Where a state is noted, or is to be. */
        private int slotOf(long state) {
            int slot = (int) (state * SPREAD >>> 64 - SLOT_BITS);
            for (int n = 0; n < SLOTS; n++) {
                if (slots[slot] == 0 || states[slots[slot] - 1] == state) {
                    return slot;
                }
                slot = slot + 1 & SLOTS - 1;
            }
            return NONE;
        }

        /** Whether a way to a state is of lower carryings than the one kept, which is as long. */
        private boolean isEarlier(int from, int carrying, int state) {
            boolean earlier = carrying < by[state];
            int mine = from;
            int other = before[state];
            for (int n = 0; n < MOST_STATES && mine != other && mine >= 0 && other >= 0; n++) {
                if (by[mine] != by[other]) {
                    earlier = by[mine] < by[other];
                }
                mine = before[mine];
                other = before[other];
            }
            return earlier;
        }

        /** The queue is a tree: none costs less than the one at half its place. */
        private void rise(int place) {
            int at = place;
            for (int n = 0; n < SLOT_BITS && at > 0 && at < queued; n++) {
                int over = (at - 1) / 2;
                if (costs[queue[over]] <= costs[queue[at]]) {
                    return;
                }
                swap(at, over);
                at = over;
            }
        }

        /** The state that costs least leaves the queue, which is not empty. */
        private int leave() {
            int least = queue[0];
            queued--;
            swap(0, queued);
            int at = 0;
            for (int n = 0; n < SLOT_BITS; n++) {
                int lower = 2 * at + 1;
                if (lower + 1 < queued && costs[queue[lower + 1]] < costs[queue[lower]]) {
                    lower++;
                }
                if (lower >= queued || costs[queue[at]] <= costs[queue[lower]]) {
                    break;
                }
                swap(at, lower);
                at = lower;
            }
            return least;
        }

        private void swap(int one, int other) {
            int state = queue[one];
            queue[one] = queue[other];
            queue[other] = state;
            queuedAt[queue[one]] = one;
            queuedAt[queue[other]] = other;
        }
    }

    /** Two schools by turns on few columns. */
    private static final class Schools {
        private static final int MOST_TURNS = 4;

        private final Hill hill;
        private final Carriers carriers;
        private final Columns columns = new Columns();
        /** What a school took, by how many turns were left. */
        private final int[] from = new int[MOST_TURNS + 1];
        private final int[] to = new int[MOST_TURNS + 1];
        private int version = NONE;
        private int latestTurns = 0;
        private int latestFirst = 0;
        private int shades = 0;

        Schools(Hill hill, Carriers carriers) {
            this.hill = hill;
            this.carriers = carriers;
        }

        int outcome(int turns, int first, int what) {
            if (turns < 1 || turns > MOST_TURNS) {
                return NONE;
            }
            if (version != hill.changes || latestTurns != turns || latestFirst != first) {
                version = hill.changes;
                latestTurns = turns;
                latestFirst = first;
                columns.become(hill.columns);
                shades = shadesBehind(turns, first);
            }
            switch (what) {
                case 0:
                    return shades;
                case 1:
                    return from[turns];
                case 2:
                    return to[turns];
                default:
                    return NONE;
            }
        }

        private int shadesBehind(int turns, int school) {
            if (turns <= 0 || turns > MOST_TURNS) {
                return hill.shades(columns);
            }
            int best = NONE;
            from[turns] = NONE;
            to[turns] = NONE;
            for (int a = 0; a < columns.many; a++) {
                for (int b = 0; b < columns.many; b++) {
                    if (carriers.note(a, b, columns.top(a), columns.high(a), columns.high(b)) == NONE) {
                        continue;
                    }
                    int sum = shadesCarried(turns, school, a, b);
                    if (best == NONE || (school == 0 ? sum > best : sum < best)) {
                        best = sum;
                        from[turns] = a;
                        to[turns] = b;
                    }
                }
            }
            // Who passes leaves all as it is, so none CAN be in the turns that are left either.
            return best == NONE ? hill.shades(columns) : best;
        }

        private int shadesCarried(int turns, int school, int a, int b) {
            columns.move(a, b);
            int sum = shadesBehind(turns - 1, 1 - school);
            columns.move(b, a);
            return sum;
        }
    }

    /** What is weighed and counted: sets of stones, sets of children, layers. */
    private static final class Scales {
        private static final int MOST_WEIGHT = 3600;
        private static final int MOST_SETS = 1_000_000_000;
        private static final int MOST_OUNCES = 9;
        private static final int MOST_MORE = 999;

        private final Hill hill;
        private final int[] setsBy = new int[MOST_WEIGHT + 1];
        private int version = NONE;
        private int sets = 0;
        private int lowest = 0;
        private int inAll = 0;
        private int inAny = 0;
        private final int[] setsWith = new int[MOST_CHILDREN];

        Scales(Hill hill) {
            this.hill = hill;
        }

        int sets(int weight) {
            if (weight < 0 || weight > MOST_WEIGHT) {
                return NONE;
            }
            if (version != hill.changes) {
                version = hill.changes;
                weighAll();
            }
            return setsBy[weight];
        }

        private void weighAll() {
            Arrays.fill(setsBy, 0);
            setsBy[0] = 1;
            int total = 0;
            for (int column = 0; column < hill.columns.many; column++) {
                for (int i = 0; i < hill.columns.high(column); i++) {
                    int weight = hill.columns.heft(column, i);
                    total = Math.min(MOST_WEIGHT, total + weight);
                    for (int sum = total; sum >= weight; sum--) {
                        setsBy[sum] = Math.min(MOST_SETS, setsBy[sum] + setsBy[sum - weight]);
                    }
                }
            }
        }

        /** Notes all sets of children by whom the hill weighs just so much more. */
        void suspect(int ounces, int more) {
            int all = (1 << hill.children) - 1;
            sets = 0;
            lowest = NONE;
            inAll = all;
            inAny = 0;
            Arrays.fill(setsWith, 0);
            for (int set = 0; set <= all; set++) {
                if (tripsOf(set) * ounces == more) {
                    note(set);
                }
            }
        }

        private int tripsOf(int set) {
            int sum = 0;
            for (int child = 0; child < hill.children; child++) {
                sum += (set >> child & 1) * hill.trips[child];
            }
            return sum;
        }

        private void note(int set) {
            if (sets == 0) {
                lowest = set;
            }
            sets++;
            inAll &= set;
            inAny |= set;
            for (int child = 0; child < hill.children; child++) {
                setsWith[child] += set >> child & 1;
            }
        }

        int finding(int what) {
            if (what == 0) {
                return sets;
            }
            if (sets == 0) {
                return NONE;
            }
            switch (what) {
                case 1:
                    return lowest;
                case 2:
                    return inAll;
                case 3:
                    return (1 << hill.children) - 1 & ~inAny;
                case 4:
                    return bestToWeigh();
                default:
                    return NONE;
            }
        }

        private int bestToWeigh() {
            int best = NONE;
            int fewest = 0;
            for (int child = 0; child < hill.children; child++) {
                int left = Math.max(setsWith[child], sets - setsWith[child]);
                if (best == NONE || left < fewest) {
                    best = child;
                    fewest = left;
                }
            }
            return best;
        }

        /** A part is of stones one upon another, so every heavier stone upon a lighter one begins one. */
        int layersOf(int column) {
            int parts = Math.min(1, hill.columns.high(column));
            for (int i = 1; i < hill.columns.high(column); i++) {
                parts += hill.columns.heft(column, i) > hill.columns.heft(column, i - 1) ? 1 : 0;
            }
            return parts;
        }
    }

    /** The hill on paper, in the rain. */
    private static final class Paper {
        private static final int MOST_SEED = 1_000_000;
        private static final int MOST_DAYS = 40;
        private static final int FACTOR = 1103;
        private static final int ADDED = 12345;
        private static final int MODULUS = 1_000_003;

        private final Columns columns = new Columns();

        /** How many stones are washed away. */
        int pour(Columns hill, int steep, int seed, int days) {
            columns.become(hill);
            if (columns.many == 0) {
                return 0;
            }
            int washed = 0;
            int s = seed;
            for (int day = 0; day < days; day++) {
                s = (s * FACTOR + ADDED) % MODULUS;
                washed += wash(s % columns.many);
                columns.settle(steep);
            }
            return washed;
        }

        private int wash(int column) {
            if (columns.high(column) == 0) {
                return 0;
            }
            int weight = columns.take(column);
            return columns.put(column + 1, weight) ? 0 : 1;
        }
    }
}
