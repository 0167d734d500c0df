import java.util.ArrayList;
import java.util.List;

/** Long runs of calls with drawn arguments, right and wrong; each answer is compared with that of a slow model. */
public final class ReferenceRuns {
    private static final int SINK = 6;
    private static final int RUNS = 400;
    private static final int CALLS = 500;
    private static long state = 0;
    private static int wrong = 0;
    private static int calls = 0;

    /** The document word by word, without regard to speed: topples one by one, a determinant by its rows. */
    private static final class Slow {
        int spots = 0;
        int[][] edges = new int[7][7];
        int[] grains = new int[6];
        int[] avalanche = new int[6];
        int[] rotor = new int[6];
        int[] coins = new int[7];
        List<int[]> kept = new ArrayList<>();
        int swallowed = 0;
        int topples = 0;
        int steps = 0;

        boolean noSpot(int spot) {
            return spot < 0 || spot >= spots;
        }

        boolean noNode(int node) {
            return node != SINK && noSpot(node);
        }

        void index(boolean isWrong) {
            if (isWrong) {
                throw new IndexOutOfBoundsException();
            }
        }

        void argument(boolean isWrong) {
            if (isWrong) {
                throw new IllegalArgumentException();
            }
        }

        void state(boolean isWrong) {
            if (isWrong) {
                throw new IllegalStateException();
            }
        }

        int degree(int node) {
            int all = 0;
            for (int many : edges[node]) {
                all += many;
            }
            return all;
        }

        boolean hasWay(int spot, boolean[] seen) {
            if (spot == SINK) {
                return true;
            }
            seen[spot] = true;
            for (int node = 0; node < 7; node++) {
                if (edges[spot][node] > 0 && !seen[node] && hasWay(node, seen)) {
                    return true;
                }
            }
            return false;
        }

        boolean fast() {
            boolean all = spots > 0;
            for (int spot = 0; spot < spots; spot++) {
                all &= hasWay(spot, new boolean[7]);
            }
            return all;
        }

        boolean steep(int[] heap, int spot) {
            return degree(spot) > 0 && heap[spot] >= degree(spot);
        }

        /** Grains that went to the sink. */
        int toppleOnce(int[] heap, int spot) {
            heap[spot] -= degree(spot);
            for (int node = 0; node < spots; node++) {
                heap[node] += edges[spot][node];
            }
            return edges[spot][SINK];
        }

        int[] settled(int[] heap, int[] times, int[] gone) {
            int[] now = heap.clone();
            for (boolean isMoving = true; isMoving;) {
                isMoving = false;
                for (int spot = 0; spot < spots && !isMoving; spot++) {
                    if (steep(now, spot)) {
                        gone[0] += toppleOnce(now, spot);
                        times[spot]++;
                        isMoving = true;
                    }
                }
            }
            return now;
        }

        int[] settled(int[] heap) {
            return settled(heap, new int[6], new int[1]);
        }

        int[] plus(int[] one, int[] other) {
            int[] both = one.clone();
            for (int spot = 0; spot < spots; spot++) {
                both[spot] += other[spot];
            }
            return both;
        }

        int sumOf(int[] row) {
            int all = 0;
            for (int value : row) {
                all += value;
            }
            return all;
        }

        int settleLying() {
            avalanche = new int[6];
            int[] gone = new int[1];
            grains = settled(grains, avalanche, gone);
            swallowed += gone[0];
            topples += sumOf(avalanche);
            return sumOf(avalanche);
        }

        boolean lasting(int[] heap) {
            for (int spot = 0; spot < spots; spot++) {
                if (steep(heap, spot)) {
                    return false;
                }
            }
            int[] more = heap.clone();
            for (int spot = 0; spot < spots; spot++) {
                more[spot] += edges[spot][SINK];
            }
            int[] times = new int[6];
            settled(more, times, new int[1]);
            boolean once = true;
            for (int spot = 0; spot < spots; spot++) {
                once &= times[spot] == 1;
            }
            return once;
        }

        int[] neutralHeap() {
            int[] twice = new int[6];
            for (int spot = 0; spot < spots; spot++) {
                twice[spot] = 2 * (degree(spot) - 1);
            }
            int[] left = settled(twice);
            for (int spot = 0; spot < spots; spot++) {
                twice[spot] -= left[spot];
            }
            return settled(twice);
        }

        /** By the first row; all of a table's rows and columns that are left. */
        long determinant(long[][] table) {
            int size = table.length;
            if (size == 0) {
                return 1;
            }
            long all = 0;
            for (int column = 0; column < size; column++) {
                long[][] rest = new long[size - 1][size - 1];
                for (int row = 1; row < size; row++) {
                    for (int other = 0; other < size; other++) {
                        if (other != column) {
                            rest[row - 1][other < column ? other : other - 1] = table[row][other];
                        }
                    }
                }
                all += (column % 2 == 0 ? 1 : -1) * table[0][column] * determinant(rest);
            }
            return all;
        }

        List<Integer> places(int spot) {
            List<Integer> all = new ArrayList<>();
            for (int node = 0; node < 7; node++) {
                for (int edge = 0; edge < edges[spot][node]; edge++) {
                    all.add(node);
                }
            }
            return all;
        }

        int points(int spot) {
            return places(spot).isEmpty() ? -1 : places(spot).get(rotor[spot]);
        }

        boolean tree() {
            boolean all = true;
            for (int spot = 0; spot < spots; spot++) {
                int at = spot;
                for (int step = 0; step < 20 && at != SINK && at != -1; step++) {
                    at = points(at);
                }
                all &= at == SINK;
            }
            return all;
        }

        /** Who owes borrows; if all have borrowed and one still owes, it can never be paid. */
        boolean payable(int[] purse) {
            int[] now = purse.clone();
            boolean[] has = new boolean[7];
            while (true) {
                int debtor = -1;
                boolean all = true;
                for (int node = 0; node < 7; node++) {
                    if (!noNode(node)) {
                        debtor = now[node] < 0 ? node : debtor;
                        all &= has[node];
                    }
                }
                if (debtor == -1 || all) {
                    return debtor == -1;
                }
                has[debtor] = true;
                give(now, debtor, -1);
            }
        }

        void give(int[] purse, int node, int often) {
            purse[node] -= often * degree(node);
            for (int other = 0; other < 7; other++) {
                purse[other] += often * edges[node][other];
            }
        }

        long spot() {
            state(spots == 6);
            return spots++;
        }

        long edge(int one, int other, int many) {
            index(noNode(one) || noNode(other));
            argument(one == other || many < 0 || many > 3);
            int before = edges[one][other];
            edges[one][other] = many;
            edges[other][one] = many;
            for (int node : new int[] {one, other}) {
                if (node != SINK) {
                    rotor[node] = 0;
                }
            }
            return before;
        }

        long drop(int spot, int many) {
            index(noSpot(spot));
            argument(many < 1 || many > 40);
            state(grains[spot] + many > 99);
            return grains[spot] += many;
        }

        long topple(int spot) {
            index(noSpot(spot));
            state(!steep(grains, spot));
            int gone = toppleOnce(grains, spot);
            topples++;
            swallowed += gone;
            return gone;
        }

        long settle() {
            state(!fast());
            return settleLying();
        }

        long keep() {
            state(kept.size() == 4);
            kept.add(grains.clone());
            return kept.size() - 1;
        }

        long add(int heap) {
            index(heap < 0 || heap >= kept.size());
            state(!fast());
            int[] both = plus(grains, kept.get(heap));
            for (int many : both) {
                state(many > 99);
            }
            grains = both;
            return settleLying();
        }

        long sweep() {
            int gone = sumOf(grains);
            grains = new int[6];
            return gone;
        }

        long walk(int spot) {
            index(noSpot(spot));
            state(!fast());
            int went = 0;
            for (int at = spot; at != SINK; at = points(at)) {
                rotor[at] = (rotor[at] + 1) % degree(at);
                went++;
            }
            steps += went;
            return went;
        }

        long pay(int node, int many) {
            index(noNode(node));
            argument(many < -9 || many > 9);
            return coins[node] += many;
        }

        long lend(int node, boolean isBorrowing) {
            index(noNode(node));
            give(coins, node, isBorrowing ? -1 : 1);
            return coins[node];
        }

        long ofSpot(int spot, int what) {
            index(noSpot(spot));
            argument(what < 0 || what > 6);
            int isSteep = steep(grains, spot) ? 1 : 0;
            return new int[] {grains[spot], degree(spot), edges[spot][SINK], avalanche[spot], isSteep, rotor[spot],
                points(spot)}[what];
        }

        long between(int one, int other) {
            index(noNode(one) || noNode(other));
            return edges[one][other];
        }

        long coins(int node) {
            index(noNode(node));
            return coins[node];
        }

        long kept(int heap, int spot) {
            index(heap < 0 || heap >= kept.size() || noSpot(spot));
            return kept.get(heap)[spot];
        }

        long many(int what) {
            argument(what < 0 || what > 13);
            int all = 0;
            int steepOnes = 0;
            int debtors = 0;
            for (int node = 0; node < 7; node++) {
                all += degree(node);
                steepOnes += node < spots && steep(grains, node) ? 1 << node : 0;
                debtors += coins[node] < 0 ? 1 : 0;
            }
            return new int[] {spots, all / 2, sumOf(grains), swallowed, topples, sumOf(avalanche), steepOnes,
                fast() ? 1 : 0, kept.size(), sumOf(coins), all / 2 - spots, debtors, steps, tree() ? 1 : 0}[what];
        }

        long count() {
            long[][] table = new long[spots][spots];
            for (int row = 0; row < spots; row++) {
                for (int column = 0; column < spots; column++) {
                    table[row][column] = row == column ? degree(row) : -edges[row][column];
                }
            }
            return determinant(table);
        }

        long density() {
            double answer = spots == 0 ? 0.0 : Math.rint(4.0 * ((double) sumOf(grains) / spots)) / 4.0;
            return Double.doubleToLongBits(answer);
        }

        long would(int spot, int many, int what) {
            index(noSpot(spot));
            argument(many < 0 || many > 40 || what < 0 || what > 2);
            state(!fast());
            int[] more = grains.clone();
            more[spot] += many;
            int[] times = new int[6];
            int[] gone = new int[1];
            settled(more, times, gone);
            int set = 0;
            for (int other = 0; other < 6; other++) {
                set += times[other] > 0 ? 1 << other : 0;
            }
            return new int[] {sumOf(times), gone[0], set}[what];
        }

        long isLasting() {
            state(!fast());
            return lasting(grains) ? 1 : 0;
        }

        long neutral(int spot) {
            index(noSpot(spot));
            state(!fast());
            return neutralHeap()[spot];
        }

        long fire() {
            boolean[] burns = new boolean[7];
            burns[SINK] = true;
            StringBuilder digits = new StringBuilder("0");
            for (int spot = 0; spot < spots; spot++) {
                int near = 0;
                for (int node = 0; node < 7; node++) {
                    near += burns[node] ? edges[spot][node] : 0;
                }
                if (!burns[spot] && near > grains[spot]) {
                    burns[spot] = true;
                    digits.append(spot + 1);
                    spot = -1;
                }
            }
            return Long.parseLong(digits.toString());
        }

        long order() {
            state(!fast());
            int[] neutral = neutralHeap();
            int[] mine = settled(grains);
            int[] now = neutral;
            for (int often = 1; often <= 100; often++) {
                now = settled(plus(now, mine));
                if (java.util.Arrays.equals(now, neutral)) {
                    return often;
                }
            }
            return -1;
        }

        long canPay() {
            state(!fast());
            return payable(coins) ? 1 : 0;
        }

        long weakest() {
            state(!fast());
            for (int node = 0; node < 7; node++) {
                int[] less = coins.clone();
                less[node]--;
                if (!noNode(node) && !payable(less)) {
                    return node;
                }
            }
            return -1;
        }

        long digest() {
            List<Long> all = new ArrayList<>();
            for (int what = 0; what <= 13; what++) {
                all.add(many(what));
            }
            for (int spot = 0; spot < spots; spot++) {
                for (int what = 0; what <= 6; what++) {
                    all.add(ofSpot(spot, what));
                }
            }
            for (int node = 0; node < 7; node++) {
                if (!noNode(node)) {
                    all.add(coins(node));
                    for (int other = 0; other < 7; other++) {
                        if (!noNode(other)) {
                            all.add(between(node, other));
                        }
                    }
                }
            }
            for (int[] heap : kept) {
                for (int spot = 0; spot < spots; spot++) {
                    all.add((long) heap[spot]);
                }
            }
            all.add(count());
            all.add(fire());
            if (fast()) {
                all.add(isLasting());
                for (int spot = 0; spot < spots; spot++) {
                    all.add(neutral(spot));
                    all.add(would(spot, 1, 0));
                }
                all.add(canPay());
                all.add(weakest());
            }
            long d = 58310;
            for (long value : all) {
                d = d * 31 + value;
            }
            return d;
        }
    }

    private interface Call {
        long answer();
    }

    private static int draw(int below) {
        state = state * 6364136223846793005L + 1442695040888963407L;
        return (int) ((state >>> 33) % below);
    }

    private static int within(int least, int most) {
        return least + draw(most - least + 1);
    }

    /** Mostly within the bounds, now and then outside. */
    private static int near(int least, int most) {
        int kind = draw(40);
        if (kind == 0) {
            return least - 1;
        }
        if (kind == 1) {
            return most + 1;
        }
        if (kind == 2) {
            int[] far = {Integer.MIN_VALUE, Integer.MAX_VALUE, -7, 7, 32, 64};
            return far[draw(far.length)];
        }
        return within(least, most);
    }

    private static int drawNode(Slow slow) {
        return draw(3) == 0 ? SINK : near(0, Math.max(slow.spots - 1, 0));
    }

    private static String told(Call call) {
        try {
            return Long.toString(call.answer());
        } catch (RuntimeException e) {
            return e.getClass().getName();
        }
    }

    private static void compare(int run, String name, Call fast, Call slow) {
        calls++;
        String got = told(fast);
        String due = told(slow);
        if (!got.equals(due)) {
            wrong++;
            if (wrong < 20) {
                System.out.println("run " + run + ": " + name + " answered " + got + ", due is " + due);
            }
        }
    }

    private static void callMoor(int run, Topplemoor x, Slow y) {
        if (draw(8) == 0) {
            compare(run, "spot()", x::spot, y::spot);
            return;
        }
        int one = drawNode(y);
        int other = drawNode(y);
        int many = near(0, 3);
        compare(run, "edge(" + one + ", " + other + ", " + many + ")", () -> x.edge(one, other, many),
            () -> y.edge(one, other, many));
    }

    private static void callSand(int run, Topplemoor x, Slow y, int kind) {
        int spot = near(0, Math.max(y.spots - 1, 0));
        int many = draw(3) == 0 ? near(1, 40) : near(1, 4);
        int heap = near(0, Math.max(y.kept.size() - 1, 0));
        switch (kind) {
            case 0 -> compare(run, "settle()", x::settle, y::settle);
            case 1 -> compare(run, "keep()", x::keep, y::keep);
            case 2 -> compare(run, "add(" + heap + ")", () -> x.add(heap), () -> y.add(heap));
            case 3 -> compare(run, "sweep()", x::sweep, y::sweep);
            case 4, 5 -> compare(run, "walk(" + spot + ")", () -> x.walk(spot), () -> y.walk(spot));
            case 6, 7 -> compare(run, "topple(" + spot + ")", () -> x.topple(spot), () -> y.topple(spot));
            default -> compare(run, "drop(" + spot + ", " + many + ")", () -> x.drop(spot, many),
                () -> y.drop(spot, many));
        }
    }

    private static void callMoney(int run, Topplemoor x, Slow y) {
        int node = drawNode(y);
        int many = draw(3) == 0 ? near(-9, 9) : within(-1, 1);
        boolean isBorrowing = draw(2) == 0;
        if (draw(2) == 0) {
            compare(run, "pay(" + node + ", " + many + ")", () -> x.pay(node, many), () -> y.pay(node, many));
        } else {
            compare(run, "lend(" + node + ", " + isBorrowing + ")", () -> x.lend(node, isBorrowing),
                () -> y.lend(node, isBorrowing));
        }
    }

    private static void ask(int run, Topplemoor x, Slow y, int kind) {
        int spot = near(0, Math.max(y.spots - 1, 0));
        int node = drawNode(y);
        int other = drawNode(y);
        int heap = near(0, Math.max(y.kept.size() - 1, 0));
        int what = near(0, 6);
        int whatOfAll = near(0, 13);
        switch (kind) {
            case 0 -> compare(run, "ofSpot(" + spot + ", " + what + ")", () -> x.ofSpot(spot, what),
                () -> y.ofSpot(spot, what));
            case 1 -> compare(run, "between(" + node + ", " + other + ")", () -> x.between(node, other),
                () -> y.between(node, other));
            case 2 -> compare(run, "coins(" + node + ")", () -> x.coins(node), () -> y.coins(node));
            case 3 -> compare(run, "kept(" + heap + ", " + spot + ")", () -> x.kept(heap, spot),
                () -> y.kept(heap, spot));
            case 4 -> compare(run, "many(" + whatOfAll + ")", () -> x.many(whatOfAll), () -> y.many(whatOfAll));
            case 5 -> compare(run, "count()", x::count, y::count);
            default -> compare(run, "density()", () -> Double.doubleToLongBits(x.density()), y::density);
        }
    }

    private static void askWhatWouldBe(int run, Topplemoor x, Slow y, int kind) {
        int spot = near(0, Math.max(y.spots - 1, 0));
        int many = near(0, 40);
        int what = near(0, 2);
        switch (kind) {
            case 0 -> compare(run, "isLasting()", () -> x.isLasting() ? 1 : 0, y::isLasting);
            case 1 -> compare(run, "neutral(" + spot + ")", () -> x.neutral(spot), () -> y.neutral(spot));
            case 2 -> compare(run, "fire()", x::fire, y::fire);
            case 3 -> compare(run, "order()", x::order, y::order);
            case 4 -> compare(run, "canPay()", () -> x.canPay() ? 1 : 0, y::canPay);
            case 5 -> compare(run, "weakest()", x::weakest, y::weakest);
            case 6 -> compare(run, "digest()", x::digest, y::digest);
            default -> compare(run, "would(" + spot + ", " + many + ", " + what + ")",
                () -> x.would(spot, many, what), () -> y.would(spot, many, what));
        }
    }

    /** Enough spots and edges that most runs come to a fast moor soon. */
    private static void begin(int run, Topplemoor x, Slow y) {
        int spots = draw(7);
        int thick = draw(4);
        for (int spot = 0; spot < spots; spot++) {
            compare(run, "spot()", x::spot, y::spot);
        }
        for (int one = 0; one < spots; one++) {
            for (int to = one + 1; to <= spots; to++) {
                int other = to == spots ? SINK : to;
                int many = draw(4) < thick || to == one + 1 ? within(1, 3) : 0;
                int from = one;
                compare(run, "edge(" + one + ", " + other + ", " + many + ")", () -> x.edge(from, other, many),
                    () -> y.edge(from, other, many));
            }
        }
    }

    private static void oneRun(int run) {
        state = run;
        Topplemoor x = new Topplemoor();
        Slow y = new Slow();
        begin(run, x, y);
        int moorCalls = draw(3) == 0 ? 20 : 3;
        for (int call = 0; call < CALLS - 40; call++) {
            int kind = draw(100);
            if (kind < moorCalls) {
                callMoor(run, x, y);
            } else if (kind < 50) {
                callSand(run, x, y, draw(16));
            } else if (kind < 60) {
                callMoney(run, x, y);
            } else if (kind < 75) {
                ask(run, x, y, draw(7));
            } else {
                askWhatWouldBe(run, x, y, draw(8));
            }
        }
        compare(run, "digest()", x::digest, y::digest);
    }

    public static void main(String[] args) {
        for (int run = 0; run < RUNS; run++) {
            oneRun(run);
        }
        System.out.println(RUNS + " runs, " + calls + " calls, " + wrong + " wrong");
        if (wrong != 0) {
            System.exit(1);
        }
    }
}
