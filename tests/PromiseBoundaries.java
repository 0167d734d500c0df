/** Each sentence of the document's promises that names a boundary case, with a test of its own; the label quotes it. */
public final class PromiseBoundaries extends Checks {
    private static final int[] FAR_BELOW = {-1, -2, -40, Integer.MIN_VALUE + 1, Integer.MIN_VALUE};

    /** 1 "Creates a moor that is a SINK alone." */
    private static void p1aSinkAlone() {
        Topplemoor moor = new Topplemoor();
        for (int what = 0; what <= 13; what++) {
            same("1 a SINK alone: many(" + what + ")", moor.many(what), what == 13 ? 1 : 0);
        }
        refused("1 a SINK alone: no SPOT", moor, INDEX, () -> moor.ofSpot(0, 0));
        refused("1 a SINK alone: no HEAP", moor, INDEX, () -> moor.kept(0, 0));
        refused("1 a SINK alone: no EDGE to a SPOT", moor, INDEX, () -> moor.edge(0, SINK, 1));
        same("1 a SINK alone: coins", moor.coins(SINK), 0);
        same("1 a SINK alone: count", moor.count(), 1);
    }

    /** 2 "Tells a SPOT, without EDGES." */
    private static void p2withoutEdges() {
        Topplemoor moor = full();
        Topplemoor five = star(5, 3);
        int told = five.spot();
        same("2 its number", told, 5);
        for (int other = 0; other <= 6; other++) {
            same("2 without EDGES: to " + other, five.between(told, other), 0);
        }
        same("2 without EDGES: degree", five.ofSpot(told, 1), 0);
        same("2 the others stay", five.many(1), 15);
        refused("2 if there are 6", moor, STATE, moor::spot);
        refused("2 if there are 6: again", moor, STATE, moor::spot);
    }

    /** 3 "how many there are between both from now on", "how many there were". */
    private static void p3fromNowOn() {
        Topplemoor moor = spots(6);
        same("3 none were", moor.edge(5, SINK, 3), 0);
        same("3 three were", moor.edge(SINK, 5, 1), 3);
        same("3 one was", moor.edge(5, SINK, 0), 1);
        same("3 none are", moor.between(5, SINK), 0);
        same("3 taken from none", moor.edge(5, SINK, 0), 0);
    }

    /** 3 "if one of both is no SPOT and not the SINK". */
    private static void p3noSpotAndNotTheSink() {
        Topplemoor moor = spots(5);
        for (int nobody : new int[] {-1, 5, 7}) {
            refused("3 one is " + nobody, moor, INDEX, () -> moor.edge(nobody, 0, 1));
            refused("3 other is " + nobody, moor, INDEX, () -> moor.edge(0, nobody, 1));
            refused("3 both are " + nobody, moor, INDEX, () -> moor.edge(nobody, nobody, 1));
            refused("3 with the SINK " + nobody, moor, INDEX, () -> moor.edge(SINK, nobody, 1));
        }
        allowed("3 the last SPOT", () -> moor.edge(4, SINK, 1));
    }

    /** 3 "if both are the same, or many is not 0 to 3". */
    private static void p3theSameOrTooMany() {
        Topplemoor moor = lived();
        for (int node : new int[] {0, 1, 2, SINK}) {
            for (int many = -1; many <= 4; many++) {
                int laid = many;
                refused("3 both are " + node, moor, ARGUMENT, () -> moor.edge(node, node, laid));
            }
        }
        for (int many : FAR_BELOW) {
            refused("3 many is " + many, moor, ARGUMENT, () -> moor.edge(0, 1, many));
        }
        for (int many : new int[] {4, 5, 1 << 30, Integer.MAX_VALUE}) {
            refused("3 many is " + many, moor, ARGUMENT, () -> moor.edge(SINK, 1, many));
        }
        same("3 many is 0", moor.edge(0, 1, 0), 2);
        same("3 many is 3", moor.edge(0, 1, 3), 0);
    }

    /** 4 "DROPS GRAINS on a SPOT (they lie there)": steep or not. */
    private static void p4theyLieThere() {
        Topplemoor moor = star(2, 1);
        same("4 its GRAINS then", moor.drop(1, 2), 2);
        same("4 its GRAINS then, steep before", moor.drop(1, 3), 5);
        lies("4 they lie there", moor, 0, 5);
        same("4 nothing topples", moor.many(4), 0);
        same("4 nothing is swallowed", moor.many(3), 0);
    }

    /** 4 "if many is not 1 to 40". */
    private static void p4from1To40() {
        Topplemoor moor = spots(1);
        refused("4 many is 0", moor, ARGUMENT, () -> moor.drop(0, 0));
        same("4 many is 1", moor.drop(0, 1), 1);
        same("4 many is 40", moor.drop(0, 40), 41);
        for (int many : new int[] {41, 42, 99, Integer.MAX_VALUE}) {
            refused("4 many is " + many, moor, ARGUMENT, () -> moor.drop(0, many));
        }
        for (int many : FAR_BELOW) {
            refused("4 many is " + many, moor, ARGUMENT, () -> moor.drop(0, many));
        }
        same("4 as before", moor.ofSpot(0, 0), 41);
    }

    /** 4 "if it would have more than 99": 99 is allowed, 100 is not, and another SPOT has its own bound. */
    private static void p4just99() {
        Topplemoor moor = spots(2);
        put(moor, 60);
        refused("4 would have 100", moor, STATE, () -> moor.drop(0, 40));
        same("4 would have 99", moor.drop(0, 39), 99);
        refused("4 would have 100 by one", moor, STATE, () -> moor.drop(0, 1));
        same("4 another one", moor.drop(1, 40), 40);
        Topplemoor pushed = star(2, 1);
        pushed.edge(0, 1, 3);
        put(pushed, 4, 98);
        pushed.topple(0);
        same("4 toppled to 101", pushed.ofSpot(1, 0), 101);
        refused("4 above 99 already", pushed, STATE, () -> pushed.drop(1, 1));
    }

    /** 5 "if it is not STEEP"; "how many GRAINS were SWALLOWED by that". */
    private static void p5notSteep() {
        Topplemoor moor = triangle();
        refused("5 nothing lies", moor, STATE, () -> moor.topple(0));
        moor.drop(0, 1);
        refused("5 a grain too few", moor, STATE, () -> moor.topple(0));
        moor.drop(0, 1);
        same("5 just enough", moor.topple(0), 1);
        refused("5 not any more", moor, STATE, () -> moor.topple(0));
        refused("5 the other has one", moor, STATE, () -> moor.topple(1));
        same("5 ever", moor.many(4), 1);
        refused("5 no such SPOT", moor, INDEX, () -> moor.topple(2));
        refused("5 the SINK is none", moor, INDEX, () -> moor.topple(SINK));
    }

    /** 6 "Returns how often SPOTS TOPPLED": the largest heap that can be dropped. */
    private static void p6theLargestHeap() {
        Topplemoor moor = star(6, 1);
        put(moor, 99, 99, 99, 99, 99, 99);
        same("6 each 99 times", moor.settle(), 6 * 99);
        same("6 swallowed", moor.many(3), 6 * 99);
        same("6 nothing is left", moor.many(2), 0);
        same("6 nothing to do", moor.settle(), 0);
    }

    /** 6 "if the moor is not FAST", even if nothing would topple. */
    private static void p6notFast() {
        Topplemoor moor = star(2, 1);
        moor.drop(0, 5);
        moor.edge(1, SINK, 0);
        refused("6 one is cut off", moor, STATE, moor::settle);
        lies("6 as before", moor, 5, 0);
        moor.sweep();
        refused("6 nothing lies", moor, STATE, moor::settle);
        moor.edge(1, 0, 1);
        same("6 joined", moor.settle(), 0);
    }

    /** 7 "if there are 4", with GRAINS or without, whether the moor is FAST or not. */
    private static void p7ifThereAre4() {
        Topplemoor moor = new Topplemoor();
        same("7 without SPOTS", moor.keep(), 0);
        moor.spot();
        same("7 without GRAINS", moor.keep(), 1);
        put(moor, 99);
        same("7 with 99", moor.keep(), 2);
        same("7 the fourth", moor.keep(), 3);
        refused("7 the fifth", moor, STATE, moor::keep);
        moor.sweep();
        refused("7 the fifth, swept", moor, STATE, moor::keep);
        same("7 still 4", moor.many(8), 4);
        same("7 the last as it was", moor.kept(3, 0), 99);
        same("7 the second as it was", moor.kept(1, 0), 0);
        same("7 the first, told later", moor.kept(0, 0), 0);
    }

    /** 7 A HEAP that was toppled above 99 is KEPT as it is. */
    private static void p7keptAbove99() {
        Topplemoor moor = star(2, 1);
        moor.edge(0, 1, 3);
        put(moor, 4, 99);
        moor.topple(0);
        moor.keep();
        same("7 above 99", moor.kept(0, 1), 102);
        moor.sweep();
        refused("8 above 99 by the HEAP alone", moor, STATE, () -> moor.add(0));
    }

    /** 8 "(SPOTS that were told later had 0 in it)". */
    private static void p8toldLater() {
        Topplemoor moor = new Topplemoor();
        moor.keep();
        moor.spot();
        moor.edge(0, SINK, 3);
        moor.drop(0, 2);
        same("8 a HEAP without SPOTS", moor.add(0), 0);
        lies("8 a HEAP without SPOTS", moor, 2);
        moor.keep();
        moor.spot();
        moor.edge(1, SINK, 3);
        moor.drop(1, 2);
        same("8 a HEAP of the first alone", moor.add(1), 1);
        lies("8 a HEAP of the first alone", moor, 1, 2);
    }

    /** 8 "if there is no such HEAP that was KEPT". */
    private static void p8noSuchHeap() {
        Topplemoor moor = star(1, 1);
        refused("8 none was KEPT", moor, INDEX, () -> moor.add(0));
        for (int heap = 0; heap < 4; heap++) {
            moor.keep();
            int next = heap + 1;
            allowed("8 the last one", () -> moor.add(next - 1));
            refused("8 behind the last one", moor, INDEX, () -> moor.add(next));
        }
        refused("8 ahead of the first one", moor, INDEX, () -> moor.add(-1));
    }

    /** 8 "or a SPOT would have more than 99 GRAINS ahead of SETTLING": 99 and 100, on the last SPOT, too. */
    private static void p8moreThan99() {
        Topplemoor moor = star(6, 3);
        put(moor, 50, 50, 50, 50, 50, 50);
        moor.keep();
        moor.sweep();
        put(moor, 49, 49, 49, 49, 49, 49);
        same("8 just 99", moor.add(0), 6 * 33);
        lies("8 just 99", moor, 0, 0, 0, 0, 0, 0);
        for (int spot = 0; spot < 6; spot++) {
            moor.drop(spot, 40);
            moor.drop(spot, 10);
            refused("8 100 on " + spot, moor, STATE, () -> moor.add(0));
            same("8 nothing is added", moor.many(2), 50);
            moor.settle();
            moor.sweep();
        }
    }

    /** 8 "if the moor is not FAST". */
    private static void p8notFast() {
        Topplemoor moor = star(1, 2);
        moor.drop(0, 5);
        moor.keep();
        moor.spot();
        refused("8 not FAST", moor, STATE, () -> moor.add(0));
        refused("8 not FAST, no HEAP", moor, INDEX, () -> moor.add(1));
        lies("8 as before", moor, 5, 0);
        moor.edge(1, 0, 1);
        // 10,0 with degrees 3 and 1: 0 three times, 1 three times, then 4: 0 once, 1 once; 2 are left
        same("8 FAST again", moor.add(0), 8);
        lies("8 FAST again", moor, 2, 0);
    }

    /** 9 "all GRAINS are gone (what was KEPT stays)"; "how many there were". */
    private static void p9whatWasKeptStays() {
        Topplemoor moor = star(6, 1);
        same("9 nothing was there", moor.sweep(), 0);
        put(moor, 99, 99, 99, 99, 99, 99);
        moor.keep();
        same("9 all were there", moor.sweep(), 594);
        same("9 gone", moor.many(2), 0);
        same("9 not SWALLOWED", moor.many(3), 0);
        for (int spot = 0; spot < 6; spot++) {
            same("9 what was KEPT stays", moor.kept(0, spot), 99);
        }
        same("9 without SPOTS", new Topplemoor().sweep(), 0);
    }

    /** 10 "if the moor is not FAST", even if the WALKER would come to the SINK. */
    private static void p10notFast() {
        Topplemoor moor = star(2, 1);
        same("10 FAST", moor.walk(0), 1);
        moor.edge(1, SINK, 0);
        refused("10 another is cut off", moor, STATE, () -> moor.walk(0));
        refused("10 it is cut off itself", moor, STATE, () -> moor.walk(1));
        refused("10 no such SPOT", moor, INDEX, () -> moor.walk(2));
        same("10 steps ever", moor.many(12), 1);
    }

    /** 10 "how many steps it went, to the SINK": on a path, to and fro. */
    private static void p10steps() {
        Topplemoor moor = path(6);
        // Each rotor but that of 0 turns from its neighbour before to the one behind.
        same("10 straight on", moor.walk(0), 6);
        for (int round = 1; round <= 5; round++) {
            // Each one but 0 sends back, and then on: 5 steps to 0, and 6 to the SINK.
            same("10 back to 0 first", moor.walk(5), 11);
            same("10 steps ever", moor.many(12), 6 + 11 * round);
        }
    }

    /** 11 "if many is not -9 to 9". */
    private static void p11fromMinus9To9() {
        Topplemoor moor = spots(1);
        for (int node : new int[] {0, SINK}) {
            same("11 many is 9", moor.pay(node, 9), 9);
            same("11 many is -9", moor.pay(node, -9), 0);
            same("11 many is 0", moor.pay(node, 0), 0);
            for (int many : new int[] {10, 11, Integer.MAX_VALUE, -10, -11, Integer.MIN_VALUE}) {
                refused("11 many is " + many, moor, ARGUMENT, () -> moor.pay(node, many));
            }
            same("11 as before", moor.coins(node), 0);
        }
        refused("11 no such one", moor, INDEX, () -> moor.pay(1, 9));
        refused("11 no such one, index first", moor, INDEX, () -> moor.pay(5, 10));
    }

    /** 12 "Returns its COINS then." */
    private static void p12coinsThen() {
        Topplemoor moor = full();
        same("12 lends", moor.lend(5, false), -18);
        same("12 borrows twice", moor.lend(5, true) + moor.lend(5, true), 18);
        same("12 the SINK", moor.lend(SINK, true), 15);
        refused("12 no such one", moor, INDEX, () -> moor.lend(7, true));
        refused("12 no such one below", moor, INDEX, () -> moor.lend(-1, false));
        Topplemoor five = spots(5);
        refused("12 not told yet", five, INDEX, () -> five.lend(5, false));
    }

    /** 13 "what: 0 .. 6", "if what is not 0 to 6". */
    private static void p13whatIs0To6() {
        Topplemoor moor = lived();
        for (int what = 0; what <= 6; what++) {
            int asked = what;
            allowed("13 what is " + what, () -> moor.ofSpot(2, asked));
        }
        for (int what : FAR_BELOW) {
            refused("13 what is " + what, moor, ARGUMENT, () -> moor.ofSpot(2, what));
        }
        for (int what : new int[] {7, 8, Integer.MAX_VALUE}) {
            refused("13 what is " + what, moor, ARGUMENT, () -> moor.ofSpot(2, what));
        }
        refused("13 index first", moor, INDEX, () -> moor.ofSpot(3, -1));
    }

    /** 13 "2 EDGES to the SINK": not to any other. */
    private static void p13edgesToTheSink() {
        Topplemoor moor = spots(6);
        moor.edge(0, 5, 3);
        same("13 EDGES to the SINK: none", moor.ofSpot(0, 2), 0);
        moor.edge(0, SINK, 2);
        same("13 EDGES to the SINK", moor.ofSpot(0, 2), 2);
        same("13 EDGES to the SINK: of another", moor.ofSpot(5, 2), 0);
    }

    /** 13 "3 how often it TOPPLED in the AVALANCHE (0, if it was told later)". */
    private static void p13toldLater() {
        Topplemoor moor = star(5, 1);
        put(moor, 1, 2, 3, 4, 5);
        moor.settle();
        moor.spot();
        for (int spot = 0; spot < 5; spot++) {
            same("13 in the AVALANCHE", moor.ofSpot(spot, 3), spot + 1);
        }
        same("13 told later", moor.ofSpot(5, 3), 0);
    }

    /** 13 "5 ... (0 without EDGES), 6 ... (6 the SINK; NONE without EDGES)". */
    private static void p13rotorWithoutEdges() {
        Topplemoor moor = star(2, 2);
        moor.walk(0);
        same("13 place", moor.ofSpot(0, 5), 1);
        same("13 6 the SINK", moor.ofSpot(0, 6), 6);
        moor.edge(0, SINK, 0);
        same("13 0 without EDGES", moor.ofSpot(0, 5), 0);
        same("13 NONE without EDGES", moor.ofSpot(0, 6), NONE);
        moor.edge(0, 1, 1);
        same("13 the number of that NEIGHBOUR", moor.ofSpot(0, 6), 1);
        same("13 the other way, 0", moor.ofSpot(1, 6), 0);
    }

    /** 14 "(0 of one and the same)". */
    private static void p14oneAndTheSame() {
        Topplemoor moor = full();
        for (int node = 0; node <= 6; node++) {
            same("14 of one and the same", moor.between(node, node), 0);
            same("14 of two", moor.between(node, (node + 1) % 7), 3);
        }
        same("14 of a SINK alone", new Topplemoor().between(SINK, SINK), 0);
        Topplemoor one = spots(1);
        refused("14 one and the same that is not there", one, INDEX, () -> one.between(1, 1));
        refused("14 one", one, INDEX, () -> one.between(1, SINK));
        refused("14 other", one, INDEX, () -> one.between(SINK, 5));
    }

    /** 15 "if there is no such one". */
    private static void p15noSuchOne() {
        Topplemoor moor = spots(5);
        for (int node = 0; node < 5; node++) {
            moor.pay(node, node - 2);
            same("15 COINS of " + node, moor.coins(node), node - 2);
        }
        refused("15 not told yet", moor, INDEX, () -> moor.coins(5));
        same("15 of the SINK", moor.coins(SINK), 0);
        refused("15 behind the SINK", moor, INDEX, () -> moor.coins(7));
        refused("15 ahead of the first", moor, INDEX, () -> moor.coins(-1));
    }

    /** 16 "if there is no such HEAP, or SPOT". */
    private static void p16noSuchHeapOrSpot() {
        Topplemoor moor = spots(2);
        put(moor, 1, 99);
        refused("16 none was KEPT", moor, INDEX, () -> moor.kept(0, 0));
        moor.keep();
        same("16 the last SPOT", moor.kept(0, 1), 99);
        refused("16 behind the last SPOT", moor, INDEX, () -> moor.kept(0, 2));
        refused("16 the SINK", moor, INDEX, () -> moor.kept(0, SINK));
        refused("16 behind the last HEAP", moor, INDEX, () -> moor.kept(1, 1));
        refused("16 ahead of the first HEAP", moor, INDEX, () -> moor.kept(-1, 1));
        refused("16 ahead of the first SPOT", moor, INDEX, () -> moor.kept(0, -1));
        refused("16 neither", moor, INDEX, () -> moor.kept(4, 6));
        moor.drop(0, 5);
        moor.spot();
        moor.drop(2, 5);
        same("16 as it was", moor.kept(0, 0), 1);
        same("16 told later", moor.kept(0, 2), 0);
    }

    /** 17 "if what is not 0 to 13". */
    private static void p17whatIs0To13() {
        Topplemoor moor = lived();
        for (int what = 0; what <= 13; what++) {
            int asked = what;
            allowed("17 what is " + what, () -> moor.many(asked));
        }
        for (int what : FAR_BELOW) {
            refused("17 what is " + what, moor, ARGUMENT, () -> moor.many(what));
        }
        for (int what : new int[] {14, 15, Integer.MAX_VALUE}) {
            refused("17 what is " + what, moor, ARGUMENT, () -> moor.many(what));
        }
    }

    /** 17 "1 all EDGES (each once)": between two SPOTS as to the SINK. */
    private static void p17eachOnce() {
        Topplemoor moor = spots(2);
        same("17 each once: none", moor.many(1), 0);
        moor.edge(0, 1, 3);
        same("17 each once: between SPOTS", moor.many(1), 3);
        moor.edge(1, SINK, 2);
        same("17 each once: to the SINK", moor.many(1), 5);
        moor.edge(0, 1, 0);
        same("17 each once: taken away", moor.many(1), 2);
    }

    /** 17 "2 GRAINS": of all, also above 99; 5 with the avalanche of SPOTS in both ways. */
    private static void p17grainsOfAll() {
        Topplemoor moor = star(6, 1);
        put(moor, 99, 99, 99, 99, 99, 99);
        same("17 GRAINS, the most", moor.many(2), 594);
        moor.keep();
        moor.settle();
        same("17 in the AVALANCHE", moor.many(5), 594);
        moor.add(0);
        same("17 TOPPLES ever", moor.many(4), 2 * 594);
        same("17 SWALLOWED ever", moor.many(3), 2 * 594);
    }

    /** 17 "11 those with COINS below 0": how many; 0 is not below 0, and the SINK is one of them. */
    private static void p17coinsBelow0() {
        Topplemoor moor = spots(6);
        same("17 COINS below 0: none", moor.many(11), 0);
        for (int node = 6; node >= 0; node--) {
            moor.pay(node, -1);
            same("17 COINS below 0: from the SINK on", moor.many(11), 7 - node);
            same("17 COINS of all", moor.many(9), node - 7);
        }
        moor.pay(3, 1);
        same("17 COINS below 0: 0 is not", moor.many(11), 6);
    }

    /** 18 "COUNT": the same as so many LASTING HEAPS there are. */
    private static void p18asManyLastingHeaps() {
        int lasting = 0;
        for (int heap = 0; heap < 3 * 4 * 4; heap++) {
            Topplemoor moor = spots(3);
            moor.edge(0, 1, 2);
            moor.edge(0, 2, 1);
            moor.edge(1, 2, 1);
            moor.edge(1, SINK, 1);
            moor.edge(2, SINK, 2);
            same("18 degrees", moor.ofSpot(0, 1) * moor.ofSpot(1, 1) * moor.ofSpot(2, 1), 3 * 4 * 4);
            put(moor, heap % 3, heap / 3 % 4, heap / 12);
            lasting += moor.isLasting() ? 1 : 0;
            same("18 of any heap", moor.count(), 21);
        }
        same("18 so many LASTING HEAPS", lasting, 21);
    }

    /** 19 "(0.0 without SPOTS)". */
    private static void p19withoutSpots() {
        sameDouble("19 without SPOTS", new Topplemoor().density(), 0.0);
        sameDouble("19 without GRAINS", spots(6).density(), 0.0);
    }

    /** 19 "as the nearest quarter": all sums up to 99 on 1 to 6 SPOTS, against doubles; and the most. */
    private static void p19nearestQuarter() {
        for (int spots = 1; spots <= 6; spots++) {
            Topplemoor moor = spots(spots);
            for (int grains = 1; grains <= 99; grains++) {
                moor.drop(spots - 1, 1);
                double due = Math.rint(4.0 * ((double) grains / spots)) / 4.0;
                sameDouble("19 " + grains + " on " + spots, moor.density(), due);
            }
        }
        Topplemoor moor = spots(6);
        put(moor, 99, 99, 99, 99, 99, 99);
        sameDouble("19 the most", moor.density(), 99.0);
        Topplemoor three = spots(3);
        put(three, 1);
        // 4/3 of a quarter, 8/3
        sameDouble("19 rounded down", three.density(), 0.25);
        three.drop(0, 1);
        sameDouble("19 rounded up", three.density(), 0.75);
    }

    /** 20 "if many is not 0 to 40, or what not 0 to 2". */
    private static void p20manyAndWhat() {
        Topplemoor moor = star(1, 1);
        same("20 many is 0", moor.would(0, 0, 0), 0);
        same("20 many is 40", moor.would(0, 40, 0), 40);
        same("20 what is 1", moor.would(0, 40, 1), 40);
        same("20 what is 2", moor.would(0, 40, 2), 1);
        for (int many : FAR_BELOW) {
            refused("20 many is " + many, moor, ARGUMENT, () -> moor.would(0, many, 0));
            refused("20 what is " + many, moor, ARGUMENT, () -> moor.would(0, 0, many));
        }
        for (int many : new int[] {41, 42, Integer.MAX_VALUE}) {
            refused("20 many is " + many, moor, ARGUMENT, () -> moor.would(0, many, 0));
        }
        for (int what : new int[] {3, 4, Integer.MAX_VALUE}) {
            refused("20 what is " + what, moor, ARGUMENT, () -> moor.would(0, 0, what));
        }
    }

    /** 20 "(also above 99)": where drop() would be refused, and where more lies already. */
    private static void p20alsoAbove99() {
        Topplemoor one = star(1, 1);
        put(one, 99);
        refused("20 drop is refused", one, STATE, () -> one.drop(0, 1));
        same("20 100", one.would(0, 1, 0), 100);
        same("20 139", one.would(0, 40, 0), 139);
        same("20 139 are SWALLOWED", one.would(0, 40, 1), 139);
        lies("20 nothing is changed", one, 99);
        Topplemoor pushed = star(2, 1);
        pushed.edge(0, 1, 3);
        put(pushed, 4, 99);
        pushed.topple(0);
        pushed.edge(0, 1, 0);
        same("20 102 lie", pushed.would(1, 40, 0), 142);
    }

    /** 20 What would be is what is, if it is done. */
    private static void p20asIfDone() {
        for (int spot = 0; spot < 3; spot++) {
            for (int many = 1; many <= 40; many++) {
                Topplemoor moor = lived();
                int topples = moor.would(spot, many, 0);
                int swallowed = moor.would(spot, many, 1);
                int set = moor.would(spot, many, 2);
                int before = moor.many(3);
                moor.drop(spot, many);
                same("20 how often", moor.settle(), topples);
                same("20 SWALLOWED", moor.many(3) - before, swallowed);
                int toppled = 0;
                for (int other = 0; other < 3; other++) {
                    toppled += moor.ofSpot(other, 3) > 0 ? 1 << other : 0;
                }
                same("20 the set", toppled, set);
            }
        }
    }

    /** 21 "false with a STEEP SPOT", and "if the moor is not FAST" though a SPOT is STEEP. */
    private static void p21steepAndNotFast() {
        Topplemoor moor = triangle();
        put(moor, 1, 1);
        same("21 the neutral heap", moor.isLasting(), true);
        moor.drop(1, 1);
        same("21 STEEP", moor.isLasting(), false);
        moor.settle();
        same("21 settled", moor.isLasting(), true);
        moor.spot();
        refused("21 not FAST", moor, STATE, moor::isLasting);
        moor.drop(0, 9);
        refused("21 not FAST, and STEEP", moor, STATE, moor::isLasting);
    }

    /** 22 "if there is no such SPOT", "if the moor is not FAST". */
    private static void p22neutral() {
        Topplemoor moor = hundredHeaps();
        int[] neutral = new int[4];
        for (int spot = 0; spot < 4; spot++) {
            neutral[spot] = moor.neutral(spot);
        }
        refused("22 behind the last", moor, INDEX, () -> moor.neutral(4));
        refused("22 ahead of the first", moor, INDEX, () -> moor.neutral(-1));
        refused("22 the SINK", moor, INDEX, () -> moor.neutral(SINK));
        Topplemoor lying = hundredHeaps();
        lying.sweep();
        put(lying, neutral);
        same("22 it lasts", lying.isLasting(), true);
        lying.keep();
        lying.add(0);
        lies("22 it is neutral", lying, neutral);
        lying.edge(0, SINK, 0);
        lying.edge(1, SINK, 0);
        refused("22 not FAST", lying, STATE, () -> lying.neutral(0));
        refused("22 not FAST, no such SPOT", lying, INDEX, () -> lying.neutral(4));
    }

    /** 23 "each 1 more, as decimal digits (0, if none does)". */
    private static void p23asDigits() {
        for (int spot = 0; spot < 6; spot++) {
            Topplemoor moor = spots(6);
            moor.edge(spot, SINK, 1);
            same("23 one alone", moor.fire(), spot + 1);
            moor.drop(spot, 1);
            same("23 none does", moor.fire(), 0);
        }
        Topplemoor six = star(6, 1);
        same("23 all of them", six.fire(), 123456);
        six.drop(0, 1);
        same("23 but the first", six.fire(), 23456);
        six.drop(5, 1);
        same("23 but the last", six.fire(), 2345);
    }

    /** 24 "at least once". */
    private static void p24atLeastOnce() {
        Topplemoor moor = hundredHeaps();
        moor.sweep();
        same("24 nothing lies", moor.order(), 1);
        for (int spot = 0; spot < 4; spot++) {
            int grains = moor.neutral(spot);
            if (grains > 0) {
                moor.drop(spot, grains);
            }
        }
        same("24 the neutral heap lies", moor.order(), 1);
    }

    /** 24 "NONE, if not by the 100th time." */
    private static void p24notByThe100thTime() {
        Topplemoor hundred = hundredHeaps();
        same("24 by the 100th time", hundred.order(), 100);
        hundred.drop(0, 1);
        same("24 twice the grain", hundred.order(), 50);
        same("24 not by the 100th time", hundredAndOneHeaps().order(), NONE);
    }

    /** 24 "the HEAP that lies, as it would be SETTLED", which stays as it lies. */
    private static void p24asItWouldBeSettled() {
        for (int grains = 1; grains <= 12; grains++) {
            Topplemoor moor = star(1, 3);
            moor.drop(0, grains);
            same("24 of " + grains, moor.order(), grains % 3 == 0 ? 1 : 3);
            lies("24 stays", moor, grains);
        }
        Topplemoor six = star(6, 3);
        same("24 of nothing on six", six.order(), 1);
        six.drop(5, 4);
        same("24 on six", six.order(), 3);
        Topplemoor moor = star(1, 3);
        moor.spot();
        refused("24 not FAST", moor, STATE, moor::order);
    }

    /** 25 "whether debts can be PAID": a ring with n SPOTS has n + 1 heaps, so n + 1 COINS beside come round. */
    private static void p25aroundTheBound() {
        for (int spots = 2; spots <= 6; spots++) {
            Topplemoor ring = path(spots);
            ring.edge(0, SINK, 1);
            for (int beside = 1; beside <= 2 * (spots + 1); beside++) {
                ring.pay(0, 1);
                ring.pay(1, -1);
                same("25 COINS beside: " + beside, ring.canPay(), beside % (spots + 1) == 0);
                ring.pay(SINK, 1);
                same("25 and one to spare", ring.canPay(), true);
                ring.pay(SINK, -1);
            }
        }
    }

    /** 25 On one SPOT, with n EDGES: n COINS at a time go to the SINK and back. */
    private static void p25onOneSpot() {
        for (int edges = 1; edges <= 3; edges++) {
            Topplemoor moor = star(1, edges);
            for (int owed = 1; owed <= 9; owed++) {
                moor.pay(0, -1);
                moor.pay(SINK, 1);
                same("25 owed by the SPOT", moor.canPay(), owed % edges == 0);
            }
            moor.pay(0, 9);
            moor.pay(SINK, -9);
            for (int owed = 1; owed <= 9; owed++) {
                moor.pay(0, 1);
                moor.pay(SINK, -1);
                same("25 owed by the SINK", moor.canPay(), owed % edges == 0);
            }
        }
    }

    /** 25, 26 "if the moor is not FAST", though nobody owes. */
    private static void p25And26notFast() {
        Topplemoor moor = star(2, 1);
        same("25 FAST", moor.canPay(), true);
        same("26 FAST", moor.weakest(), 0);
        moor.edge(0, SINK, 0);
        refused("25 not FAST", moor, STATE, moor::canPay);
        refused("26 not FAST", moor, STATE, moor::weakest);
        moor.edge(0, 1, 1);
        same("25 FAST again", moor.canPay(), true);
        same("26 FAST again", moor.weakest(), 0);
    }

    /** 26 "the smallest number of a SPOT, or the SINK, so that debts could not be PAID ...; NONE, if there is none." */
    private static void p26theSmallest() {
        Topplemoor moor = star(3, 2);
        same("26 no coin at all", moor.weakest(), 0);
        moor.pay(0, 1);
        same("26 a coin of 0", moor.weakest(), 1);
        moor.pay(1, 1);
        same("26 a coin of 0 and 1", moor.weakest(), 2);
        moor.pay(2, 1);
        same("26 a coin of each SPOT", moor.weakest(), SINK);
        moor.pay(SINK, 1);
        same("26 a coin of each", moor.weakest(), NONE);
        moor.pay(1, -1);
        // the coin of 1 is missing, and the SINK's alone cannot go there: two go at a time
        same("26 all but 1", moor.weakest(), 1);
        moor.pay(SINK, 1);
        same("26 the SINK's two", moor.weakest(), NONE);
        moor.pay(SINK, -9);
        same("26 cannot be PAID as it is", moor.canPay(), false);
        same("26 cannot be PAID as it is: the first", moor.weakest(), 0);
    }

    /** 26 as 25 answers, with the coin taken indeed. */
    private static void p26asIfTaken() {
        Topplemoor moor = lived();
        for (int round = 0; round < 40; round++) {
            int weakest = NONE;
            for (int node : new int[] {SINK, 2, 1, 0}) {
                moor.pay(node, -1);
                weakest = moor.canPay() ? weakest : node;
                moor.pay(node, 1);
            }
            same("26 with the coin taken", moor.weakest(), weakest);
            moor.pay(round % 4 == 3 ? SINK : round % 4, round % 5 - 1);
        }
    }

    /** 27 "starts with 58310; ... d becomes d * 31 + v, which wraps around as a 64-bit integer". */
    private static void p27fromItsStart() {
        // 13 zeros of many(), 1 for the tree; coins and between of the SINK; 1 for count(), 0 for fire()
        same("27 a new object", new Topplemoor().digest(), wrapped(new int[] {0, 0, 0, 0, 0, 0, 0, 0, 0, 0, 0, 0, 0, 1,
            0, 0, 1, 0}));
        same("27 a SPOT without EDGES", spots(1).digest(), wrapped(new int[] {1, 0, 0, 0, 0, 0, 0, 0, 0, 0, -1, 0, 0, 0,
            0, 0, 0, 0, 0, 0, -1, 0, 0, 0, 0, 0, 0, 0, 0}));
        Topplemoor fast = star(1, 2);
        fast.drop(0, 1);
        fast.keep();
        fast.pay(0, 5);
        same("27 a FAST moor", fast.digest(), wrapped(new int[] {1, 2, 1, 0, 0, 0, 0, 1, 1, 5, 1, 0, 0, 1,
            1, 2, 2, 0, 0, 0, 6, 5, 0, 2, 0, 2, 0, 1, 2, 1, 1, 0, 1, 1, -1}));
    }

    /** 27 "if the moor is FAST: isLasting() (1 or 0), SPOT by SPOT: neutral(), would() ...". */
    private static void p27ifTheMoorIsFast() {
        Topplemoor moor = path(2);
        moor.pay(1, -2);
        // neutral 0 and 1; a grain on 0 goes to 1 and lies there, one on 1 lies; debts of 2 that nobody can pay
        same("27 not lasting, not to be paid", moor.digest(), wrapped(new int[] {2, 2, 0, 0, 0, 0, 0, 1, 0, -2, 0, 1, 0, 0,
            0, 1, 0, 0, 0, 0, 1, 0, 2, 1, 0, 0, 0, 0,
            0, 0, 1, 0, -2, 1, 0, 1, 0, 0, 1, 0, 1, 21,
            0, 0, 1, 1, 0, 0, 0}));
        moor.edge(1, SINK, 0);
        same("27 not FAST", moor.digest(), wrapped(new int[] {2, 1, 0, 0, 0, 0, 0, 0, 0, -2, -1, 1, 0, 0,
            0, 1, 0, 0, 0, 0, 1, 0, 1, 0, 0, 0, 0, 0,
            0, 0, 1, 0, -2, 1, 0, 0, 0, 0, 0, 0, 0, 0}));
    }

    /** In numbers without a bound, cut to 64 bits at the end. */
    private static long wrapped(int[] values) {
        java.math.BigInteger d = java.math.BigInteger.valueOf(58310);
        for (int value : values) {
            d = d.multiply(java.math.BigInteger.valueOf(31)).add(java.math.BigInteger.valueOf(value));
        }
        return d.longValue();
    }

    private static void moor() {
        p1aSinkAlone();
        p2withoutEdges();
        p3fromNowOn();
        p3noSpotAndNotTheSink();
        p3theSameOrTooMany();
    }

    private static void sand() {
        p4theyLieThere();
        p4from1To40();
        p4just99();
        p5notSteep();
        p6theLargestHeap();
        p6notFast();
        p7ifThereAre4();
        p7keptAbove99();
        p8toldLater();
        p8noSuchHeap();
        p8moreThan99();
        p8notFast();
        p9whatWasKeptStays();
        p10notFast();
        p10steps();
    }

    private static void moneyAndWhatIsAsked() {
        p11fromMinus9To9();
        p12coinsThen();
        p13whatIs0To6();
        p13edgesToTheSink();
        p13toldLater();
        p13rotorWithoutEdges();
        p14oneAndTheSame();
        p15noSuchOne();
        p16noSuchHeapOrSpot();
        p17whatIs0To13();
        p17eachOnce();
        p17grainsOfAll();
        p17coinsBelow0();
        p18asManyLastingHeaps();
        p19withoutSpots();
        p19nearestQuarter();
    }

    private static void whatWouldBe() {
        p20manyAndWhat();
        p20alsoAbove99();
        p20asIfDone();
        p21steepAndNotFast();
        p22neutral();
        p23asDigits();
        p24atLeastOnce();
        p24notByThe100thTime();
        p24asItWouldBeSettled();
        p25aroundTheBound();
        p25onOneSpot();
        p25And26notFast();
        p26theSmallest();
        p26asIfTaken();
        p27fromItsStart();
        p27ifTheMoorIsFast();
    }

    public static void main(String[] args) {
        moor();
        sand();
        moneyAndWhatIsAsked();
        whatWouldBe();
        end();
    }
}
