/** What the tests share: comparing answers, refusals, and moors to begin with. */
class Checks {
    static final String INDEX = "IndexOutOfBoundsException";
    static final String ARGUMENT = "IllegalArgumentException";
    static final String STATE = "IllegalStateException";
    static final int SINK = 6;
    static final int NONE = -1;
    private static int checks = 0;
    private static int wrong = 0;

    interface Call {
        void run();
    }

    static void same(String what, long got, long due) {
        checks++;
        if (got != due) {
            wrong++;
            System.out.println(what + " answered " + got + ", due is " + due);
        }
    }

    static void same(String what, boolean got, boolean due) {
        same(what, got ? 1 : 0, due ? 1 : 0);
    }

    static void sameText(String what, String got, String due) {
        checks++;
        if (!got.equals(due)) {
            wrong++;
            System.out.println(what + " answered " + got + ", due is " + due);
        }
    }

    static void sameDouble(String what, double got, double due) {
        checks++;
        if (got != due) {
            wrong++;
            System.out.println(what + " answered " + got + ", due is " + due);
        }
    }

    /** The very class of the exception, so that none that the machine throws passes for a due one. */
    static String thrownBy(Call call) {
        try {
            call.run();
        } catch (RuntimeException e) {
            return e.getClass().getSimpleName();
        }
        return "nothing";
    }

    static void refused(String what, Topplemoor moor, String due, Call call) {
        long before = moor.digest();
        sameText(what + " throws", thrownBy(call), due);
        same(what + " leaves the digest", moor.digest(), before);
    }

    static void allowed(String what, Call call) {
        sameText(what + " throws", thrownBy(call), "nothing");
    }

    static Topplemoor spots(int many) {
        Topplemoor moor = new Topplemoor();
        for (int spot = 0; spot < many; spot++) {
            moor.spot();
        }
        return moor;
    }

    /** 0 - 1 - 2 - .. - SINK, one EDGE each. */
    static Topplemoor path(int many) {
        Topplemoor moor = spots(many);
        for (int spot = 0; spot < many; spot++) {
            moor.edge(spot, spot + 1 < many ? spot + 1 : SINK, 1);
        }
        return moor;
    }

    /** SPOTS 0 and 1 and the SINK, one EDGE between any two: the neutral heap is 1, 1; three trees. */
    static Topplemoor triangle() {
        Topplemoor moor = path(2);
        moor.edge(0, SINK, 1);
        return moor;
    }

    /** SPOTS with EDGES to the SINK alone. */
    static Topplemoor star(int many, int edges) {
        Topplemoor moor = spots(many);
        for (int spot = 0; spot < many; spot++) {
            moor.edge(spot, SINK, edges);
        }
        return moor;
    }

    /** Six SPOTS, and three EDGES between any two, the SINK too. */
    static Topplemoor full() {
        Topplemoor moor = star(6, 3);
        for (int one = 0; one < 6; one++) {
            for (int other = one + 1; other < 6; other++) {
                moor.edge(one, other, 3);
            }
        }
        return moor;
    }

    /** Two SPOTS with an EDGE between, and no way to the SINK. */
    static Topplemoor cutOff() {
        Topplemoor moor = spots(2);
        moor.edge(0, 1, 1);
        return moor;
    }

    /** A cyclic group of 100 heaps, and the grain on 0 goes through all of them. */
    static Topplemoor hundredHeaps() {
        Topplemoor moor = spots(4);
        layFrom0(moor, 2, 2, 1, 2);
        layFrom1(moor, 1, 1, 2);
        moor.drop(0, 1);
        return moor;
    }

    /** The same with 101 heaps. */
    static Topplemoor hundredAndOneHeaps() {
        Topplemoor moor = spots(4);
        layFrom0(moor, 1, 3, 2, 1);
        layFrom1(moor, 2, 1, 1);
        moor.drop(0, 1);
        return moor;
    }

    private static void layFrom0(Topplemoor moor, int to1, int to2, int to3, int toSink) {
        moor.edge(0, 1, to1);
        moor.edge(0, 2, to2);
        moor.edge(0, 3, to3);
        moor.edge(0, SINK, toSink);
    }

    private static void layFrom1(Topplemoor moor, int to2, int to3, int toSink) {
        moor.edge(1, 2, to2);
        moor.edge(1, 3, to3);
        moor.edge(1, SINK, toSink);
    }

    /** Three SPOTS, with something in everything that a moor holds: 2 heaps, an avalanche, turned rotors, debts. */
    static Topplemoor lived() {
        Topplemoor moor = spots(3);
        moor.edge(0, 1, 2);
        moor.edge(1, 2, 1);
        moor.edge(0, 2, 1);
        moor.edge(2, SINK, 2);
        put(moor, 7, 4, 5);
        moor.keep();
        moor.settle();
        moor.keep();
        moor.walk(0);
        moor.walk(1);
        moor.pay(0, -4);
        moor.pay(1, 6);
        moor.lend(SINK, false);
        put(moor, 3, 0, 1);
        return moor;
    }

    static void put(Topplemoor moor, int... grains) {
        for (int spot = 0; spot < grains.length; spot++) {
            for (int left = grains[spot]; left > 0; left -= 40) {
                moor.drop(spot, Math.min(left, 40));
            }
        }
    }

    static void lies(String what, Topplemoor moor, int... grains) {
        for (int spot = 0; spot < grains.length; spot++) {
            same(what + ": grains of " + spot, moor.ofSpot(spot, 0), grains[spot]);
        }
    }

    /** The last line of a test's main. */
    static void end() {
        System.out.println(checks + " checks, " + wrong + " wrong");
        if (wrong != 0) {
            System.exit(1);
        }
    }
}
