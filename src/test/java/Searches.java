import java.util.ArrayList;
import java.util.Arrays;
import java.util.HashMap;
import java.util.List;
import java.util.Map;

/**
 * Plans and duels on the largest hills that they take, under laws by which nearly every carrying tires
 * otherwise, held against what is left to do from each state there is: made better till it can't be.
 */
public final class Searches extends Bench {
    private static final int HILLS = 60;
    private static final long FAR = Long.MAX_VALUE / 4;
    private static final long ONE_TIRING = 1_000_000;
    private static long drawn = 20261119;

    private static int draw(int n) {
        drawn = drawn * 6364136223846793005L + 1442695040888963407L;
        return (int) Math.floorMod(drawn >>> 33, (long) n);
    }

    /** A hill, its law, its goals, known to both. */
    private static final class Case {
        final int[][] columns;
        final int[] strengths;
        final int[] factors = new int[7];
        final int modulus;
        final int barred;
        final int[] goals;
        final int steep = 1 + draw(4);

        Case(int many, int stones, int most) {
            columns = new int[many][0];
            for (int n = 0; n < stones; n++) {
                int column = draw(many);
                if (columns[column].length < 10) {
                    columns[column] = with(columns[column], 1 + draw(most));
                }
            }
            strengths = new int[1 + draw(3)];
            for (int child = 0; child < strengths.length; child++) {
                strengths[child] = child == 0 ? most : 1 + draw(most);
            }
            for (int k = 0; k < factors.length; k++) {
                factors[k] = draw(90);
            }
            modulus = 2 + draw(draw(2) == 0 ? 8 : 99);
            barred = draw(3) == 0 ? 3 + draw(9) : 0;
            goals = new int[many];
            Arrays.fill(goals, NONE);
            for (int left = stones, column = many - 1; column >= 0; column--) {
                if (draw(3) > 0) {
                    goals[column] = draw(left + 1);
                    left -= goals[column];
                }
            }
        }

        String text() {
            String[] words = {"child", "strength", "weight", "from", "to", "high", "low"};
            StringBuilder sum = new StringBuilder("0");
            for (int k = 0; k < words.length; k++) {
                sum.append('+').append(words[k]).append('*').append(factors[k]);
            }
            String text = "tires " + sum + "-[" + sum + "]/" + modulus + "*" + modulus;
            String other = "weight*3+from*5+to+high";
            return barred == 0 ? text : text + ";bars if " + other + "=[" + other + "]/" + barred + "*" + barred;
        }

        HillSchool made() {
            HillSchool x = hill(columns);
            for (int strength : strengths) {
                x.child(strength);
            }
            inForce(x, text());
            x.terms(2, steep);
            for (int column = 0; column < goals.length; column++) {
                x.goal(column, goals[column]);
            }
            return x;
        }

        /** NONE, if it can't be. */
        int tires(int[][] at, int child, int from, int to) {
            int high = at[from].length;
            int low = at[to].length;
            if (from == to || high == 0 || low == 10 || strengths[child] < at[from][high - 1]) {
                return NONE;
            }
            int weight = at[from][high - 1];
            if (barred != 0 && (weight * 3 + from * 5 + to + high) % barred == 0) {
                return NONE;
            }
            int[] values = {child, strengths[child], weight, from, to, high, low};
            int sum = 0;
            for (int k = 0; k < values.length; k++) {
                sum += values[k] * factors[k];
            }
            return Math.min(99, sum % modulus);
        }

        boolean goalsAreSo(int[][] at) {
            boolean so = true;
            for (int column = 0; column < goals.length; column++) {
                so = so && (goals[column] == NONE || goals[column] == at[column].length);
            }
            return so;
        }

        boolean isSafe(int[][] at) {
            boolean safe = true;
            for (int column = 1; column < at.length; column++) {
                safe = safe && Math.abs(at[column].length - at[column - 1].length) <= steep;
            }
            return safe;
        }
    }

    private static int[] with(int[] stones, int weight) {
        int[] more = Arrays.copyOf(stones, stones.length + 1);
        more[stones.length] = weight;
        return more;
    }

    private static int[][] carried(int[][] at, int from, int to) {
        int[][] next = at.clone();
        next[from] = Arrays.copyOf(at[from], at[from].length - 1);
        next[to] = with(at[to], at[from][at[from].length - 1]);
        return next;
    }

    /** All states that can be come to; of each its steps: from, to, child, the state behind it, what it tires. */
    private static final class States {
        final List<int[][]> hills = new ArrayList<>();
        final List<List<int[]>> steps = new ArrayList<>();
        private final Map<String, Integer> numbers = new HashMap<>();

        States(Case one) {
            number(one.columns);
            for (int state = 0; state < hills.size(); state++) {
                int[][] at = hills.get(state);
                List<int[]> mine = new ArrayList<>();
                steps.add(mine);
                for (int from = 0; from < at.length; from++) {
                    for (int to = 0; to < at.length; to++) {
                        for (int child = 0; child < one.strengths.length; child++) {
                            int tires = one.tires(at, child, from, to);
                            if (tires != NONE) {
                                mine.add(new int[] {from, to, child, number(carried(at, from, to)), tires});
                            }
                        }
                    }
                }
            }
        }

        private int number(int[][] at) {
            Integer known = numbers.putIfAbsent(Arrays.deepToString(at), hills.size());
            if (known == null) {
                hills.add(at);
            }
            return known == null ? hills.size() - 1 : known;
        }
    }

    private static long cost(Case one, States all, int[] step, int sort) {
        if (sort == 1 && !one.isSafe(all.hills.get(step[3]))) {
            return FAR;
        }
        return 1 + (sort == 2 ? step[4] * ONE_TIRING : 0);
    }

    private static long[] left(Case one, States all, int sort) {
        long[] left = new long[all.hills.size()];
        for (int state = 0; state < left.length; state++) {
            left[state] = one.goalsAreSo(all.hills.get(state)) ? 0 : FAR;
        }
        boolean better = true;
        while (better) {
            better = false;
            for (int state = left.length - 1; state >= 0; state--) {
                for (int[] step : all.steps.get(state)) {
                    long by = cost(one, all, step, sort) + left[step[3]];
                    better = better || by < left[state];
                    left[state] = Math.min(left[state], by);
                }
            }
        }
        return left;
    }

    private static void plans(Case one, HillSchool x) {
        States all = new States(one);
        for (int sort = 0; sort < 3; sort++) {
            long[] left = left(one, all, sort);
            if (left[0] >= FAR) {
                row(x, sort, NONE);
                continue;
            }
            List<Integer> carryings = new ArrayList<>();
            int state = 0;
            while (left[state] > 0) {
                for (int[] step : all.steps.get(state)) {
                    if (cost(one, all, step, sort) + left[step[3]] == left[state]) {
                        carryings.add(step[0]);
                        carryings.add(step[1]);
                        carryings.add(step[2]);
                        state = step[3];
                        break;
                    }
                }
            }
            int[] row = new int[carryings.size()];
            for (int k = 0; k < row.length; k++) {
                row[k] = carryings.get(k);
            }
            row(x, sort, sort == 2 ? (int) (left[0] / ONE_TIRING) : (int) left[0], row);
        }
    }

    private static int shades(int[][] at, int[] parishes, int slope) {
        int sum = 0;
        for (int place : parishes) {
            int most = 0;
            for (int column = 0; column < at.length; column++) {
                most = Math.max(most, at[column].length - slope * Math.abs(column - place));
            }
            sum += most;
        }
        return sum;
    }

    /** {shades in the end, from, to}. */
    private static int[] outcome(Case one, int[][] at, int[] parishes, int slope, int turns, int school) {
        int[] best = null;
        for (int from = 0; turns > 0 && from < at.length; from++) {
            for (int to = 0; to < at.length; to++) {
                boolean can = false;
                for (int child = 0; child < one.strengths.length; child++) {
                    can = can || one.tires(at, child, from, to) != NONE;
                }
                if (can) {
                    int sum = outcome(one, carried(at, from, to), parishes, slope, turns - 1, 1 - school)[0];
                    if (best == null || (school == 0 ? sum > best[0] : sum < best[0])) {
                        best = new int[] {sum, from, to};
                    }
                }
            }
        }
        // Where one passes, so do all behind him.
        return best != null ? best : new int[] {shades(at, parishes, slope), NONE, NONE};
    }

    private static void duels(Case one, HillSchool x) {
        int[] parishes = new int[1 + draw(6)];
        for (int k = 0; k < parishes.length; k++) {
            parishes[k] = draw(one.columns.length);
            x.parish(parishes[k]);
        }
        int slope = 1 + draw(3);
        x.terms(1, slope);
        for (int turns = 1; turns < 5; turns++) {
            for (int first = 0; first < 2; first++) {
                outcome(x, turns, first, outcome(one, one.columns, parishes, slope, turns, first));
            }
        }
    }

    public static void main(String[] args) {
        int hills = args.length > 0 ? Integer.parseInt(args[0]) : HILLS;
        for (int n = 0; n < hills; n++) {
            at("hill " + n);
            Case small = new Case(n % 3 == 2 ? 3 : 4, 5, n % 2 == 0 ? 30 : 3);
            plans(small, small.made());
            if (n % 6 == 0) {
                Case high = new Case(4, n % 4 == 0 ? 38 : 12, 30);
                duels(high, high.made());
            }
        }
        close("all searches find what is best");
    }
}
