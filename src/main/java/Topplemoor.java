import java.util.Arrays;

/** Sand on a graph with a sink; README.md says how to use it. */
public final class Topplemoor {
    private static final int NONE = -1;
    private static final int SPOTS = 6;
    private static final int SINK = 6;
    private static final int NODES = 7;
    private static final int MOST_EDGES = 3;
    private static final int MOST_DROPPED = 40;
    private static final int MOST_GRAINS = 99;
    private static final int MOST_KEPT = 4;
    private static final int MOST_PAID = 9;
    private static final int MOST_ADDED = 100;
    private static final int KINDS_OF_MANY = 14;
    private static final int KINDS_OF_SPOT = 7;
    /** Far above what any run of 512 calls needs; it only shows that loops end. */
    private static final int ROUNDS = 1000000;

    private final Moor moor;
    private final Heap lying;
    private final Heap trial;
    private final Heap neutralHeap;
    private final Heap sum;
    private final Rotors rotors;
    private final Money money;
    private final int[][] keptHeaps;
    private int keptMany;
    private int swallowed;
    private int topples;

    public Topplemoor() {
        moor = new Moor();
        lying = new Heap(moor);
        trial = new Heap(moor);
        neutralHeap = new Heap(moor);
        sum = new Heap(moor);
        rotors = new Rotors(moor);
        money = new Money(moor);
        keptHeaps = new int[MOST_KEPT][SPOTS];
    }

    // ---- the moor

    public int spot() throws IllegalStateException {
        if (moor.spots >= SPOTS) {
            throw new IllegalStateException("there are 6 spots");
        }
        moor.spots++;
        return moor.spots - 1;
    }

    public int edge(int one, int other, int many) throws IndexOutOfBoundsException, IllegalArgumentException {
        requireNode(one);
        requireNode(other);
        if (one == other) {
            throw new IllegalArgumentException("both are the same");
        }
        requireWithin(many, 0, MOST_EDGES);
        int before = moor.edges[one][other];
        moor.lay(one, other, many);
        rotors.reset(one);
        rotors.reset(other);
        return before;
    }

    // ---- sand

    public int drop(int spot, int many) throws IndexOutOfBoundsException, IllegalArgumentException, IllegalStateException {
        requireSpot(spot);
        requireWithin(many, 1, MOST_DROPPED);
        if (lying.grains[spot] + many > MOST_GRAINS) {
            throw new IllegalStateException("more than 99 grains");
        }
        lying.grains[spot] += many;
        return lying.grains[spot];
    }

    public int topple(int spot) throws IndexOutOfBoundsException, IllegalStateException {
        requireSpot(spot);
        if (!lying.isSteep(spot)) {
            throw new IllegalStateException("the spot is not steep");
        }
        lying.tip(spot, 1);
        topples++;
        swallowed += moor.edges[spot][SINK];
        return moor.edges[spot][SINK];
    }

    public int settle() throws IllegalStateException {
        requireFast();
        return settleLying();
    }

    public int keep() throws IllegalStateException {
        if (keptMany >= MOST_KEPT) {
            throw new IllegalStateException("there are 4 heaps");
        }
        System.arraycopy(lying.grains, 0, keptHeaps[keptMany], 0, SPOTS);
        keptMany++;
        return keptMany - 1;
    }

    public int add(int heap) throws IndexOutOfBoundsException, IllegalStateException {
        requireHeap(heap);
        requireFast();
        for (int spot = 0; spot < moor.spots; spot++) {
            if (lying.grains[spot] + keptHeaps[heap][spot] > MOST_GRAINS) {
                throw new IllegalStateException("more than 99 grains");
            }
        }
        lying.addRow(keptHeaps[heap]);
        return settleLying();
    }

    public int sweep() {
        int gone = lying.allGrains();
        Arrays.fill(lying.grains, 0);
        return gone;
    }

    public int walk(int spot) throws IndexOutOfBoundsException, IllegalStateException {
        requireSpot(spot);
        requireFast();
        return rotors.send(spot);
    }

    // ---- money

    public int pay(int node, int many) throws IndexOutOfBoundsException, IllegalArgumentException {
        requireNode(node);
        requireWithin(many, -MOST_PAID, MOST_PAID);
        money.coins[node] += many;
        return money.coins[node];
    }

    public int lend(int node, boolean isBorrowing) throws IndexOutOfBoundsException {
        requireNode(node);
        money.give(node, isBorrowing ? -1 : 1);
        return money.coins[node];
    }

    // ---- what is asked

    public int ofSpot(int spot, int what) throws IndexOutOfBoundsException, IllegalArgumentException {
        requireSpot(spot);
        requireWithin(what, 0, KINDS_OF_SPOT - 1);
        return spotValue(spot, what);
    }

    public int between(int one, int other) throws IndexOutOfBoundsException {
        requireNode(one);
        requireNode(other);
        return moor.edges[one][other];
    }

    public int coins(int node) throws IndexOutOfBoundsException {
        requireNode(node);
        return money.coins[node];
    }

    public int kept(int heap, int spot) throws IndexOutOfBoundsException {
        requireHeap(heap);
        requireSpot(spot);
        return keptHeaps[heap][spot];
    }

    public int many(int what) throws IllegalArgumentException {
        requireWithin(what, 0, KINDS_OF_MANY - 1);
        return manyValue(what);
    }

    public long count() {
        return moor.trees();
    }

    public double density() {
        int spots = moor.spots;
        if (spots <= 0) {
            return 0.0;
        }
        // In whole numbers, so that nothing is rounded but the quarter itself.
        int fourfold = 4 * lying.allGrains();
        int quarters = fourfold / spots;
        int twiceRest = 2 * (fourfold % spots);
        if (twiceRest > spots || twiceRest == spots && quarters % 2 != 0) {
            quarters++;
        }
        return quarters / 4.0;
    }

    // ---- what would be (nothing is changed)

    public int would(int spot, int many, int what) throws IndexOutOfBoundsException, IllegalArgumentException, IllegalStateException {
        requireSpot(spot);
        requireWithin(many, 0, MOST_DROPPED);
        requireWithin(what, 0, 2);
        requireFast();
        rollTrialWith(spot, many);
        switch (what) {
            case 0:
                return trial.allTimes();
            case 1:
                return trial.swallowedByRoll();
            default:
                return trial.toppledSet();
        }
    }

    public boolean isLasting() throws IllegalStateException {
        requireFast();
        return liesLasting();
    }

    public int neutral(int spot) throws IndexOutOfBoundsException, IllegalStateException {
        requireSpot(spot);
        requireFast();
        neutralHeap.becomeNeutral();
        return neutralHeap.grains[spot];
    }

    public int fire() {
        return lying.burningOrder();
    }

    public int order() throws IllegalStateException {
        requireFast();
        trial.copyRow(lying.grains);
        trial.roll();
        neutralHeap.becomeNeutral();
        sum.copyRow(neutralHeap.grains);
        for (int often = 1; often <= MOST_ADDED; often++) {
            sum.addRow(trial.grains);
            sum.roll();
            if (sum.isLike(neutralHeap.grains)) {
                return often;
            }
        }
        return NONE;
    }

    public boolean canPay() throws IllegalStateException {
        requireFast();
        return money.isPayable();
    }

    public int weakest() throws IllegalStateException {
        requireFast();
        return money.weakestNode();
    }

    public long digest() {
        long d = 58310;
        for (int what = 0; what < KINDS_OF_MANY; what++) {
            d = d * 31 + manyValue(what);
        }
        for (int spot = 0; spot < moor.spots; spot++) {
            for (int what = 0; what < KINDS_OF_SPOT; what++) {
                d = d * 31 + spotValue(spot, what);
            }
        }
        for (int spot = 0; spot < moor.spots; spot++) {
            d = digestNode(d, spot);
        }
        d = digestNode(d, SINK);
        d = digestKept(d);
        d = d * 31 + moor.trees();
        d = d * 31 + lying.burningOrder();
        return moor.isFast() ? digestFast(d) : d;
    }

    // ---- helpers

    private void requireSpot(int spot) throws IndexOutOfBoundsException {
        if (!moor.isSpot(spot)) {
            throw new IndexOutOfBoundsException("no such spot");
        }
    }

    private void requireNode(int node) throws IndexOutOfBoundsException {
        if (!moor.isNode(node)) {
            throw new IndexOutOfBoundsException("no such spot, and not the sink");
        }
    }

    private void requireHeap(int heap) throws IndexOutOfBoundsException {
        if (heap < 0 || heap >= keptMany) {
            throw new IndexOutOfBoundsException("no such heap");
        }
    }

    private void requireFast() throws IllegalStateException {
        if (!moor.isFast()) {
            throw new IllegalStateException("the moor is not fast");
        }
    }

    private static void requireWithin(int value, int least, int most) throws IllegalArgumentException {
        if (value < least || value > most) {
            throw new IllegalArgumentException("not within its bounds");
        }
    }

    private int settleLying() {
        lying.roll();
        int often = lying.allTimes();
        topples += often;
        swallowed += lying.swallowedByRoll();
        return often;
    }

    private void rollTrialWith(int spot, int many) {
        trial.copyRow(lying.grains);
        trial.grains[spot] += many;
        trial.roll();
    }

    private boolean liesLasting() {
        if (lying.steepSet() != 0) {
            return false;
        }
        trial.copyRow(lying.grains);
        trial.addFromSink();
        trial.roll();
        return trial.hasEachToppledOnce();
    }

    private int spotValue(int spot, int what) {
        switch (what) {
            case 0:
                return lying.grains[spot];
            case 1:
                return moor.degrees[spot];
            case 2:
                return moor.edges[spot][SINK];
            case 3:
                return lying.times[spot];
            case 4:
                return lying.isSteep(spot) ? 1 : 0;
            case 5:
                return rotors.places[spot];
            default:
                return rotors.pointedFrom(spot);
        }
    }

    private int manyValue(int what) {
        switch (what) {
            case 0:
                return moor.spots;
            case 1:
                return moor.allEdges();
            case 2:
                return lying.allGrains();
            case 3:
                return swallowed;
            case 4:
                return topples;
            case 5:
                return lying.allTimes();
            case 6:
                return lying.steepSet();
            case 7:
                return moor.isFast() ? 1 : 0;
            case 8:
                return keptMany;
            case 9:
                return money.allCoins();
            case 10:
                return moor.allEdges() - moor.spots;
            case 11:
                return money.debtors();
            case 12:
                return rotors.steps;
            default:
                return rotors.areTree() ? 1 : 0;
        }
    }

    private long digestNode(long before, int node) {
        long d = before * 31 + money.coins[node];
        for (int spot = 0; spot < moor.spots; spot++) {
            d = d * 31 + moor.edges[node][spot];
        }
        return d * 31 + moor.edges[node][SINK];
    }

    private long digestKept(long before) {
        long d = before;
        for (int heap = 0; heap < keptMany; heap++) {
            for (int spot = 0; spot < moor.spots; spot++) {
                d = d * 31 + keptHeaps[heap][spot];
            }
        }
        return d;
    }

    private long digestFast(long before) {
        long d = before * 31 + (liesLasting() ? 1 : 0);
        neutralHeap.becomeNeutral();
        for (int spot = 0; spot < moor.spots; spot++) {
            d = d * 31 + neutralHeap.grains[spot];
            rollTrialWith(spot, 1);
            d = d * 31 + trial.allTimes();
        }
        d = d * 31 + (money.isPayable() ? 1 : 0);
        return d * 31 + money.weakestNode();
    }

    /** Spots, the sink, and the edges between; rows of spots that are not told yet hold 0. */
    private static final class Moor {
        int spots;
        final int[][] edges = new int[NODES][NODES];
        final int[] degrees = new int[NODES];
        private final long[][] table = new long[SPOTS][SPOTS];

        boolean isSpot(int spot) {
            return spot >= 0 && spot < spots;
        }

        boolean isNode(int node) {
            return node == SINK || isSpot(node);
        }

        void lay(int one, int other, int many) {
            int more = many - edges[one][other];
            edges[one][other] = many;
            edges[other][one] = many;
            degrees[one] += more;
            degrees[other] += more;
        }

        int allEdges() {
            int ends = 0;
            for (int node = 0; node < NODES; node++) {
                ends += degrees[node];
            }
            return ends / 2;
        }

        int edgesInto(int spot, int set) {
            int found = 0;
            for (int node = 0; node < NODES; node++) {
                if ((set >> node & 1) != 0) {
                    found += edges[spot][node];
                }
            }
            return found;
        }

        boolean isFast() {
            int reached = 1 << SINK;
            // Each round reaches a spot more, or there is none more to reach.
            for (int round = 0; round < spots; round++) {
                for (int spot = 0; spot < spots; spot++) {
                    if (edgesInto(spot, reached) > 0) {
                        reached |= 1 << spot;
                    }
                }
            }
            return spots > 0 && Integer.bitCount(reached) == spots + 1;
        }

        int neighbourAt(int spot, int place) {
            int left = place;
            for (int node = 0; node < NODES; node++) {
                left -= edges[spot][node];
                if (left < 0) {
                    return node;
                }
            }
            return NONE;
        }

        long trees() {
            fillTable();
            long pivot = 1;
            for (int step = 0; step < spots; step++) {
                // No table of this kind needs rows to be swapped: where a pivot is 0, the determinant is 0 too.
                if (pivot == 0) {
                    return 0;
                }
                eliminate(step, pivot);
                pivot = table[step][step];
            }
            return pivot;
        }

        private void fillTable() {
            for (int row = 0; row < spots; row++) {
                for (int column = 0; column < spots; column++) {
                    table[row][column] = row == column ? degrees[row] : -edges[row][column];
                }
            }
        }

        /** Divides by the pivot before, which always goes without a rest, so that all stays whole. */
        private void eliminate(int step, long pivotBefore) {
            if (pivotBefore == 0) {
                return;
            }
            long pivot = table[step][step];
            for (int row = step + 1; row < spots; row++) {
                for (int column = step + 1; column < spots; column++) {
                    long product = table[row][column] * pivot - table[row][step] * table[step][column];
                    table[row][column] = product / pivotBefore;
                }
            }
        }
    }

    /** Grains of all spots, and how often each spot toppled as they were settled the last time. */
    private static final class Heap {
        final int[] grains = new int[SPOTS];
        final int[] times = new int[SPOTS];
        private final Moor moor;

        Heap(Moor moor) {
            this.moor = moor;
        }

        void copyRow(int[] row) {
            System.arraycopy(row, 0, grains, 0, SPOTS);
        }

        void addRow(int[] row) {
            for (int spot = 0; spot < moor.spots; spot++) {
                grains[spot] += row[spot];
            }
        }

        void addFromSink() {
            for (int spot = 0; spot < moor.spots; spot++) {
                grains[spot] += moor.edges[spot][SINK];
            }
        }

        boolean isLike(int[] row) {
            for (int spot = 0; spot < moor.spots; spot++) {
                if (grains[spot] != row[spot]) {
                    return false;
                }
            }
            return true;
        }

        int allGrains() {
            int found = 0;
            for (int spot = 0; spot < moor.spots; spot++) {
                found += grains[spot];
            }
            return found;
        }

        boolean isSteep(int spot) {
            return moor.degrees[spot] > 0 && grains[spot] >= moor.degrees[spot];
        }

        int steepSet() {
            int set = 0;
            for (int spot = 0; spot < moor.spots; spot++) {
                if (isSteep(spot)) {
                    set |= 1 << spot;
                }
            }
            return set;
        }

        void tip(int from, int often) {
            grains[from] -= often * moor.degrees[from];
            for (int spot = 0; spot < moor.spots; spot++) {
                grains[spot] += often * moor.edges[from][spot];
            }
        }

        /** Settles; only for a fast moor. */
        void roll() {
            Arrays.fill(times, 0);
            boolean isMoving = true;
            for (int round = 0; isMoving && round < ROUNDS; round++) {
                isMoving = rollRound();
            }
        }

        /** A spot topples as often as it can at once: what comes of it is the same in any order. */
        private boolean rollRound() {
            boolean hasMoved = false;
            for (int spot = 0; spot < moor.spots; spot++) {
                int degree = moor.degrees[spot];
                if (degree > 0 && grains[spot] >= degree) {
                    int often = grains[spot] / degree;
                    tip(spot, often);
                    times[spot] += often;
                    hasMoved = true;
                }
            }
            return hasMoved;
        }

        int allTimes() {
            int found = 0;
            for (int spot = 0; spot < moor.spots; spot++) {
                found += times[spot];
            }
            return found;
        }

        int swallowedByRoll() {
            int found = 0;
            for (int spot = 0; spot < moor.spots; spot++) {
                found += times[spot] * moor.edges[spot][SINK];
            }
            return found;
        }

        int toppledSet() {
            int set = 0;
            for (int spot = 0; spot < moor.spots; spot++) {
                if (times[spot] > 0) {
                    set |= 1 << spot;
                }
            }
            return set;
        }

        boolean hasEachToppledOnce() {
            for (int spot = 0; spot < moor.spots; spot++) {
                if (times[spot] != 1) {
                    return false;
                }
            }
            return true;
        }

        void becomeNeutral() {
            for (int spot = 0; spot < moor.spots; spot++) {
                grains[spot] = 2 * (moor.degrees[spot] - 1);
            }
            roll();
            for (int spot = 0; spot < moor.spots; spot++) {
                grains[spot] = 2 * (moor.degrees[spot] - 1) - grains[spot];
            }
            roll();
        }

        int burningOrder() {
            int burning = 1 << SINK;
            int digits = 0;
            for (int round = 0; round < moor.spots; round++) {
                int next = nextToBurn(burning);
                if (next == NONE) {
                    return digits;
                }
                burning |= 1 << next;
                digits = digits * 10 + next + 1;
            }
            return digits;
        }

        private int nextToBurn(int burning) {
            for (int spot = 0; spot < moor.spots; spot++) {
                boolean isBurning = (burning >> spot & 1) != 0;
                if (!isBurning && moor.edgesInto(spot, burning) > grains[spot]) {
                    return spot;
                }
            }
            return NONE;
        }
    }

    /** Where the rotors point to, and the walkers that they send. */
    private static final class Rotors {
        final int[] places = new int[SPOTS];
        int steps;
        private final Moor moor;

        Rotors(Moor moor) {
            this.moor = moor;
        }

        void reset(int node) {
            if (moor.isSpot(node)) {
                places[node] = 0;
            }
        }

        int pointedFrom(int spot) {
            return moor.neighbourAt(spot, places[spot]);
        }

        int send(int spot) {
            int at = spot;
            int went = 0;
            while (moor.isSpot(at) && went < ROUNDS) {
                turn(at);
                at = pointedFrom(at);
                went++;
            }
            steps += went;
            return went;
        }

        private void turn(int spot) {
            int next = places[spot] + 1;
            places[spot] = next < moor.degrees[spot] ? next : 0;
        }

        boolean areTree() {
            for (int spot = 0; spot < moor.spots; spot++) {
                if (!leadsToSink(spot)) {
                    return false;
                }
            }
            return true;
        }

        private boolean leadsToSink(int spot) {
            int at = spot;
            for (int step = 0; step < moor.spots && moor.isSpot(at); step++) {
                at = pointedFrom(at);
            }
            return at == SINK;
        }
    }

    /** Coins of the spots and the sink. */
    private static final class Money {
        final int[] coins = new int[NODES];
        private final Moor moor;
        private final Heap lasting;
        private final Heap poorer;

        Money(Moor moor) {
            this.moor = moor;
            lasting = new Heap(moor);
            poorer = new Heap(moor);
        }

        void give(int from, int often) {
            coins[from] -= often * moor.degrees[from];
            for (int node = 0; node < NODES; node++) {
                coins[node] += often * moor.edges[from][node];
            }
        }

        int allCoins() {
            int found = 0;
            for (int node = 0; node < NODES; node++) {
                found += coins[node];
            }
            return found;
        }

        int debtors() {
            int found = 0;
            for (int node = 0; node < NODES; node++) {
                if (coins[node] < 0) {
                    found++;
                }
            }
            return found;
        }

        boolean isPayable() {
            findLasting();
            return allCoins() >= leastNeeded(lasting);
        }

        int weakestNode() {
            findLasting();
            int left = allCoins() - 1;
            for (int spot = 0; spot < moor.spots; spot++) {
                // A coin less is a grain more, and what is added to a lasting heap leaves a lasting one.
                poorer.copyRow(lasting.grains);
                poorer.grains[spot]++;
                poorer.roll();
                if (left < leastNeeded(poorer)) {
                    return spot;
                }
            }
            return left < leastNeeded(lasting) ? SINK : NONE;
        }

        /**
         * Coins read the other way round (degree less 1 less coins) are grains: who is in debt there is steep, and
         * to borrow is to topple. By lending and borrowing each row of coins comes to just one lasting heap; read
         * back, its spots owe nothing, and the sink has as much as it can have then.
         */
        private void findLasting() {
            for (int spot = 0; spot < moor.spots; spot++) {
                lasting.grains[spot] = coins[spot];
            }
            readOtherWay();
            lasting.roll();
            readOtherWay();
            lasting.roll();
            readOtherWay();
            boolean isLasting = false;
            for (int round = 0; !isLasting && round < ROUNDS; round++) {
                lasting.addFromSink();
                lasting.roll();
                isLasting = lasting.hasEachToppledOnce();
            }
        }

        private void readOtherWay() {
            for (int spot = 0; spot < moor.spots; spot++) {
                lasting.grains[spot] = moor.degrees[spot] - 1 - lasting.grains[spot];
            }
        }

        /** Coins that lie on the spots, when the sink has as many as it can have. */
        private int leastNeeded(Heap heap) {
            int found = 0;
            for (int spot = 0; spot < moor.spots; spot++) {
                found += moor.degrees[spot] - 1 - heap.grains[spot];
            }
            return found;
        }
    }
}
