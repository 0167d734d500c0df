/** Each sentence of the document's terms that names a boundary case, with a test of its own; the label quotes it. */
public final class TermBoundaries extends Checks {
    private static boolean isDue(String due, Call call) {
        return thrownBy(call).equals(due);
    }

    // ---- ahead of the terms

    /** "An object is used for at most 512 calls": the last ones are answered as the first ones. */
    private static void all512Calls() {
        Topplemoor moor = path(1);
        // 2 calls to make it, 250 times 2, and 10 more
        for (int round = 1; round <= 250; round++) {
            same("512 calls: walk", moor.walk(0), 1);
            same("512 calls: pay", moor.pay(0, -9), -9 * round);
        }
        same("512 calls: steps", moor.many(12), 250);
        same("512 calls: coins", moor.many(9), -2250);
        same("512 calls: debtors", moor.many(11), 1);
        same("512 calls: cannot pay", moor.canPay(), false);
        same("512 calls: weakest", moor.weakest(), 0);
        same("512 calls: drop", moor.drop(0, 40), 40);
        same("512 calls: settle", moor.settle(), 40);
        same("512 calls: swallowed", moor.many(3), 40);
        same("512 calls: topples", moor.many(4), 40);
        same("512 calls: the last", moor.ofSpot(0, 3), 40);
    }

    /** The farthest that coins can go within 512 calls: all that the SINK takes is owed by the others, and back. */
    private static void the512thCallFindsWhatIsOwed() {
        Topplemoor moor = full();
        // 6 and 21 calls to make it, 479 more, and 6 to ask
        for (int round = 1; round <= 479; round++) {
            same("512 calls: borrowed", moor.lend(SINK, true), 18 * round);
        }
        same("512 calls: each owes 3 a time", moor.coins(5), -3 * 479);
        same("512 calls: all pay it back", moor.canPay(), true);
        same("512 calls: no coin to lose", moor.weakest(), 0);
        same("512 calls: debtors", moor.many(11), 6);
        moor.pay(SINK, -1);
        same("512 calls: a coin too few", moor.canPay(), false);
    }

    /** "NONE is -1." */
    private static void noneIsMinus1() {
        Topplemoor moor = spots(1);
        same("NONE is -1: no neighbour", moor.ofSpot(0, 6), -1);
        moor.edge(0, SINK, 1);
        moor.pay(0, 1);
        same("NONE is -1: nobody is weak", moor.weakest(), -1);
        same("NONE is -1: not by the 100th time", hundredAndOneHeaps().order(), -1);
    }

    /** "A set is the sum of 2^k." */
    private static void aSetIsASum() {
        Topplemoor moor = star(6, 1);
        same("a set: empty", moor.many(6), 0);
        same("a set: would, empty", moor.would(5, 0, 2), 0);
        int sum = 0;
        for (int spot = 0; spot < 6; spot++) {
            same("a set: one alone", moor.would(spot, 1, 2), sum + (1 << spot));
            moor.drop(spot, 1);
            sum += 1 << spot;
            same("a set: so far", moor.many(6), sum);
        }
        same("a set: all six", moor.many(6), 63);
        same("a set: would, all six", moor.would(0, 0, 2), 63);
    }

    // ---- 1 the moor

    /** "SPOTS: at most 6, numbered from 0." */
    private static void atMost6Spots() {
        Topplemoor moor = new Topplemoor();
        for (int spot = 0; spot < 6; spot++) {
            same("at most 6, numbered from 0", moor.spot(), spot);
        }
        refused("at most 6: a seventh", moor, STATE, moor::spot);
        same("at most 6: still 6", moor.many(0), 6);
    }

    /** "and the SINK, which has the number 6": with any number of SPOTS; what lies between is nobody. */
    private static void theSinkHasTheNumber6() {
        for (int spots = 0; spots <= 6; spots++) {
            Topplemoor moor = star(spots, 1);
            for (int node = -2; node <= 9; node++) {
                int asked = node;
                boolean isThere = node == 6 || node >= 0 && node < spots;
                String due = isThere ? "nothing" : INDEX;
                String what = "the SINK is 6: with " + spots + " spots " + node;
                sameText(what + " coins", thrownBy(() -> moor.coins(asked)), due);
                sameText(what + " pay", thrownBy(() -> moor.pay(asked, 0)), due);
                sameText(what + " lend", thrownBy(() -> moor.lend(asked, false)), due);
                sameText(what + " borrow", thrownBy(() -> moor.lend(asked, true)), due);
                sameText(what + " one", thrownBy(() -> moor.between(asked, 6)), due);
                sameText(what + " other", thrownBy(() -> moor.between(6, asked)), due);
                sameText(what + " edge", thrownBy(() -> moor.edge(asked, 6, 1)), node == 6 ? ARGUMENT : due);
                sameText(what + " edge back", thrownBy(() -> moor.edge(6, asked, 1)), node == 6 ? ARGUMENT : due);
            }
        }
    }

    /** The SINK is no SPOT, and no more are SPOTS that are not told. */
    private static void theSinkIsNoSpot() {
        for (int spots = 0; spots <= 6; spots++) {
            Topplemoor moor = star(spots, 1);
            moor.keep();
            for (int spot = -2; spot <= 9; spot++) {
                int asked = spot;
                String due = spot >= 0 && spot < spots ? "nothing" : INDEX;
                String what = "the SINK is no SPOT: with " + spots + " spots " + spot;
                sameText(what + " drop", thrownBy(() -> moor.drop(asked, 1)), due);
                sameText(what + " topple", thrownBy(() -> moor.topple(asked)), due);
                sameText(what + " walk", thrownBy(() -> moor.walk(asked)), due);
                sameText(what + " ofSpot", thrownBy(() -> moor.ofSpot(asked, 0)), due);
                sameText(what + " kept", thrownBy(() -> moor.kept(0, asked)), due);
                sameText(what + " would", thrownBy(() -> moor.would(asked, 0, 0)), due);
                sameText(what + " neutral", thrownBy(() -> moor.neutral(asked)), due);
            }
        }
    }

    /** The farthest numbers that there are. */
    private static void farNumbersAreNobody() {
        Topplemoor moor = full();
        moor.keep();
        for (int far : new int[] {Integer.MIN_VALUE, Integer.MIN_VALUE + 6, -7, 7, 13, 1 << 16, Integer.MAX_VALUE}) {
            String what = "nobody has the number " + far;
            refused(what + " edge", moor, INDEX, () -> moor.edge(far, 0, 1));
            refused(what + " edge back", moor, INDEX, () -> moor.edge(0, far, 1));
            refused(what + " drop", moor, INDEX, () -> moor.drop(far, 1));
            refused(what + " topple", moor, INDEX, () -> moor.topple(far));
            refused(what + " add", moor, INDEX, () -> moor.add(far));
            refused(what + " walk", moor, INDEX, () -> moor.walk(far));
            refused(what + " pay", moor, INDEX, () -> moor.pay(far, 1));
            refused(what + " lend", moor, INDEX, () -> moor.lend(far, true));
            refused(what + " ofSpot", moor, INDEX, () -> moor.ofSpot(far, 0));
            refused(what + " between", moor, INDEX, () -> moor.between(far, 0));
            refused(what + " between back", moor, INDEX, () -> moor.between(0, far));
            refused(what + " coins", moor, INDEX, () -> moor.coins(far));
            refused(what + " kept heap", moor, INDEX, () -> moor.kept(far, 0));
            refused(what + " kept spot", moor, INDEX, () -> moor.kept(0, far));
            refused(what + " would", moor, INDEX, () -> moor.would(far, 1, 0));
            refused(what + " neutral", moor, INDEX, () -> moor.neutral(far));
        }
    }

    /** "EDGES (0 to 3 of them, told as their number)." */
    private static void edges0To3() {
        Topplemoor moor = spots(2);
        int before = 0;
        for (int many : new int[] {0, 1, 2, 3, 3, 0, 3, 2, 1, 0}) {
            same("0 to 3 of them: there were", moor.edge(0, 1, many), before);
            same("0 to 3 of them: there are", moor.between(0, 1), many);
            same("0 to 3 of them: from the other", moor.between(1, 0), many);
            before = many;
        }
        refused("0 to 3 of them: 4", moor, ARGUMENT, () -> moor.edge(0, 1, 4));
        refused("0 to 3 of them: -1", moor, ARGUMENT, () -> moor.edge(0, 1, -1));
    }

    /** "DEGREE of a SPOT (of the SINK, too): all its EDGES." */
    private static void degreeIsAllEdges() {
        Topplemoor moor = spots(3);
        same("DEGREE without edges", moor.ofSpot(0, 1), 0);
        moor.edge(0, SINK, 3);
        same("DEGREE: those to the sink", moor.ofSpot(0, 1), 3);
        moor.edge(1, 0, 2);
        moor.edge(0, 2, 1);
        same("DEGREE: to all", moor.ofSpot(0, 1), 6);
        same("DEGREE: of another", moor.ofSpot(1, 1), 2);
        moor.edge(0, 1, 0);
        same("DEGREE: taken away", moor.ofSpot(0, 1), 4);
        same("DEGREE: of the other, too", moor.ofSpot(1, 1), 0);
        Topplemoor most = full();
        for (int spot = 0; spot < 6; spot++) {
            same("DEGREE: the most", most.ofSpot(spot, 1), 18);
        }
        same("DEGREE: of the sink, too", most.lend(SINK, false), -18);
        same("DEGREE: of a sink alone", new Topplemoor().lend(SINK, false), 0);
    }

    /** "NEIGHBOURS are those with EDGES between." */
    private static void neighboursHaveEdges() {
        Topplemoor moor = spots(4);
        moor.edge(1, 2, 1);
        moor.edge(1, 3, 1);
        same("NEIGHBOURS: the smallest", moor.ofSpot(1, 6), 2);
        moor.edge(1, 2, 0);
        same("NEIGHBOURS: without edges no more", moor.ofSpot(1, 6), 3);
        moor.lend(1, false);
        same("NEIGHBOURS: who has none gets nothing", moor.coins(2), 0);
        same("NEIGHBOURS: who has gets some", moor.coins(3), 1);
        moor.edge(1, 3, 0);
        same("NEIGHBOURS: none", moor.ofSpot(1, 6), NONE);
    }

    /** "The moor is FAST, if there is a SPOT": without SPOTS all that asks for it is refused. */
    private static void withoutSpotsNotFast() {
        Topplemoor moor = new Topplemoor();
        same("FAST, if there is a SPOT", moor.many(7), 0);
        moor.keep();
        refused("without SPOTS: settle", moor, STATE, moor::settle);
        refused("without SPOTS: add", moor, STATE, () -> moor.add(0));
        refused("without SPOTS: walk", moor, INDEX, () -> moor.walk(0));
        refused("without SPOTS: would", moor, INDEX, () -> moor.would(0, 1, 0));
        refused("without SPOTS: neutral", moor, INDEX, () -> moor.neutral(0));
        refused("without SPOTS: isLasting", moor, STATE, moor::isLasting);
        refused("without SPOTS: order", moor, STATE, moor::order);
        refused("without SPOTS: canPay", moor, STATE, moor::canPay);
        refused("without SPOTS: weakest", moor, STATE, moor::weakest);
        moor.spot();
        same("a SPOT without EDGES is not FAST", moor.many(7), 0);
        moor.edge(0, SINK, 1);
        same("a SPOT with a way is FAST", moor.many(7), 1);
    }

    /** "and a way along EDGES from each SPOT to the SINK." */
    private static void aWayFromEachSpot() {
        Topplemoor moor = cutOff();
        same("a way: none to the sink", moor.many(7), 0);
        moor.edge(1, SINK, 1);
        same("a way: through another", moor.many(7), 1);
        moor.spot();
        same("a way: not from the one told later", moor.many(7), 0);
        moor.edge(2, 0, 1);
        same("a way: through two others", moor.many(7), 1);
        moor.edge(0, 1, 0);
        same("a way: two cut off together", moor.many(7), 0);
        moor.edge(2, SINK, 1);
        same("a way: by themselves", moor.many(7), 1);
        moor.edge(1, SINK, 0);
        same("a way: the last edge taken away", moor.many(7), 0);
    }

    /** The longest ways that there are, along rising and along falling numbers. */
    private static void theLongestWays() {
        Topplemoor rising = path(6);
        same("a way: along all six", rising.many(7), 1);
        Topplemoor falling = spots(6);
        falling.edge(0, SINK, 1);
        for (int spot = 1; spot < 6; spot++) {
            same("a way: not yet from all", falling.many(7), 0);
            falling.edge(spot, spot - 1, 1);
        }
        same("a way: back along all six", falling.many(7), 1);
        for (int cut = 0; cut < 6; cut++) {
            Topplemoor moor = path(6);
            moor.edge(cut, cut + 1, 0);
            same("a way: cut behind " + cut, moor.many(7), 0);
        }
    }

    /** All that asks for a FAST moor, on one that is not, though it has SPOTS and EDGES. */
    private static void notFastIsRefused() {
        Topplemoor moor = cutOff();
        put(moor, 1, 3);
        moor.keep();
        refused("not FAST: settle", moor, STATE, moor::settle);
        refused("not FAST: add", moor, STATE, () -> moor.add(0));
        refused("not FAST: walk", moor, STATE, () -> moor.walk(0));
        refused("not FAST: would", moor, STATE, () -> moor.would(0, 1, 0));
        refused("not FAST: isLasting", moor, STATE, moor::isLasting);
        refused("not FAST: neutral", moor, STATE, () -> moor.neutral(0));
        refused("not FAST: order", moor, STATE, moor::order);
        refused("not FAST: canPay", moor, STATE, moor::canPay);
        refused("not FAST: weakest", moor, STATE, moor::weakest);
    }

    /** What does not ask for it is answered on such a moor. */
    private static void notFastIsAnswered() {
        Topplemoor moor = cutOff();
        put(moor, 1, 3);
        same("not FAST: topple", moor.topple(1), 0);
        lies("not FAST: topple", moor, 2, 2);
        same("not FAST: keep", moor.keep(), 0);
        same("not FAST: fire", moor.fire(), 0);
        same("not FAST: count", moor.count(), 0);
        sameDouble("not FAST: density", moor.density(), 2.0);
        same("not FAST: steep", moor.many(6), 3);
        same("not FAST: lend", moor.lend(0, false), -1);
        same("not FAST: pay", moor.pay(1, 4), 5);
        same("not FAST: tree", moor.many(13), 0);
        same("not FAST: sweep", moor.sweep(), 4);
        same("not FAST: loops", moor.many(10), -1);
    }

    // ---- 2 sand

    /** "Each SPOT has GRAINS (0 at first)", also a SPOT that was told later. */
    private static void grains0AtFirst() {
        Topplemoor moor = spots(1);
        same("GRAINS 0 at first", moor.ofSpot(0, 0), 0);
        moor.drop(0, 5);
        moor.spot();
        same("GRAINS 0 at first: told later", moor.ofSpot(1, 0), 0);
        same("GRAINS 0 at first: of all", moor.many(2), 5);
    }

    /** "It is STEEP, if it has EDGES": without, it never is. */
    private static void steepOnlyWithEdges() {
        Topplemoor moor = spots(1);
        same("STEEP, if it has EDGES: 0 grains", moor.ofSpot(0, 4), 0);
        refused("STEEP, if it has EDGES: 0 grains", moor, STATE, () -> moor.topple(0));
        put(moor, 99);
        same("STEEP, if it has EDGES: 99 grains", moor.ofSpot(0, 4), 0);
        same("STEEP, if it has EDGES: the set", moor.many(6), 0);
        refused("STEEP, if it has EDGES: 99 grains", moor, STATE, () -> moor.topple(0));
        moor.edge(0, SINK, 1);
        same("STEEP, if it has EDGES: then it is", moor.ofSpot(0, 4), 1);
        moor.edge(0, SINK, 0);
        same("STEEP, if it has EDGES: taken away", moor.ofSpot(0, 4), 0);
    }

    /** "and GRAINS are DEGREE or more": one less is not enough, just so many are. */
    private static void steepFromDegreeOn() {
        for (int degree = 1; degree <= 18; degree++) {
            Topplemoor moor = spots(6);
            for (int left = degree, other = 6; left > 0; left -= 3, other--) {
                moor.edge(0, other, Math.min(left, 3));
            }
            put(moor, degree - 1);
            same("DEGREE or more: one less", moor.ofSpot(0, 4), 0);
            same("DEGREE or more: one less, the set", moor.many(6), 0);
            refused("DEGREE or more: one less", moor, STATE, () -> moor.topple(0));
            moor.drop(0, 1);
            same("DEGREE or more: just so many", moor.ofSpot(0, 4), 1);
            same("DEGREE or more: just so many, the set", moor.many(6), 1);
            same("DEGREE or more: topples", moor.topple(0), Math.min(degree, 3));
            same("DEGREE or more: nothing left", moor.ofSpot(0, 0), 0);
        }
    }

    /** "each NEIGHBOUR ... has so many more as there are EDGES between; what goes to the SINK is SWALLOWED." */
    private static void toppleGivesAlongEdges() {
        Topplemoor moor = spots(4);
        moor.edge(1, 0, 3);
        moor.edge(1, 2, 1);
        moor.edge(1, SINK, 2);
        put(moor, 0, 13, 5, 4);
        same("TOPPLE: swallowed", moor.topple(1), 2);
        lies("TOPPLE: once, though steep still", moor, 3, 7, 6, 4);
        same("TOPPLE: steep still", moor.ofSpot(1, 4), 1);
        same("TOPPLE: again", moor.topple(1), 2);
        lies("TOPPLE: again", moor, 6, 1, 7, 4);
        same("(counted ever)", moor.many(3), 4);
        same("TOPPLE: nobody without the sink swallows", moor.topple(0), 0);
        same("(counted ever), none more", moor.many(3), 4);
    }

    /** "SWALLOWED (counted ever)": by topple(), settle() and add(), and not taken off by anything. */
    private static void swallowedIsCountedEver() {
        Topplemoor moor = star(1, 2);
        put(moor, 8);
        moor.topple(0);
        same("counted ever: topple", moor.many(3), 2);
        moor.keep();
        moor.settle();
        same("counted ever: settle", moor.many(3), 8);
        moor.add(0);
        same("counted ever: add", moor.many(3), 14);
        same("topples ever: all three", moor.many(4), 7);
        moor.drop(0, 1);
        moor.sweep();
        moor.would(0, 40, 1);
        moor.edge(0, SINK, 0);
        same("counted ever: stays", moor.many(3), 14);
        same("topples ever: stays", moor.many(4), 7);
    }

    /** "until none is": a moor that lies still is left as it is; just DEGREE begins to move. */
    private static void settlesUntilNoneIsSteep() {
        Topplemoor moor = triangle();
        put(moor, 1, 1);
        same("until none is: lies still", moor.settle(), 0);
        lies("until none is: lies still", moor, 1, 1);
        moor.drop(1, 1);
        // 1,2 -> 2,0 -> 0,1
        same("until none is: just steep", moor.settle(), 2);
        lies("until none is: just steep", moor, 0, 1);
        same("until none is", moor.many(6), 0);
        Topplemoor nothing = full();
        same("until none is: nothing lies", nothing.settle(), 0);
    }

    /** "What lies then, and how often each one TOPPLED, is the same in any order": the largest first, too. */
    private static void sameInAnyOrder() {
        Topplemoor settled = lived();
        put(settled, 40, 30, 20);
        Topplemoor byHand = lived();
        put(byHand, 40, 30, 20);
        int before = byHand.many(3);
        int[] times = new int[3];
        for (int set = byHand.many(6); set != 0; set = byHand.many(6)) {
            int largest = 31 - Integer.numberOfLeadingZeros(set);
            byHand.topple(largest);
            times[largest]++;
        }
        same("in any order: how often", settled.settle(), times[0] + times[1] + times[2]);
        for (int spot = 0; spot < 3; spot++) {
            same("in any order: what lies", settled.ofSpot(spot, 0), byHand.ofSpot(spot, 0));
            same("in any order: each one", settled.ofSpot(spot, 3), times[spot]);
        }
        same("in any order: swallowed", settled.many(3) - before, byHand.many(3) - before);
    }

    /** "The AVALANCHE ... (0 at first)": ahead of the first settling, whatever was toppled by hand. */
    private static void avalanche0AtFirst() {
        Topplemoor moor = star(2, 1);
        same("AVALANCHE 0 at first", moor.many(5), 0);
        put(moor, 3, 2);
        moor.topple(0);
        moor.would(1, 1, 0);
        moor.isLasting();
        moor.order();
        for (int spot = 0; spot < 2; spot++) {
            same("AVALANCHE 0 at first: of each", moor.ofSpot(spot, 3), 0);
        }
        same("AVALANCHE 0 at first: toppled by hand", moor.many(5), 0);
        moor.edge(0, SINK, 0);
        refused("AVALANCHE 0 at first: refused", moor, STATE, moor::settle);
        same("AVALANCHE 0 at first: refused", moor.many(5), 0);
    }

    /** "by the latest settle() or add()". */
    private static void avalancheOfTheLatest() {
        Topplemoor moor = star(2, 1);
        put(moor, 3, 2);
        moor.keep();
        moor.settle();
        same("the latest: settle", moor.many(5), 5);
        same("the latest: settle, of 0", moor.ofSpot(0, 3), 3);
        same("the latest: settle, of 1", moor.ofSpot(1, 3), 2);
        moor.drop(1, 1);
        moor.add(0);
        same("the latest: add", moor.many(5), 6);
        same("the latest: add, of 1", moor.ofSpot(1, 3), 3);
        moor.settle();
        same("the latest: nothing toppled", moor.many(5), 0);
        same("the latest: nothing toppled, of 0", moor.ofSpot(0, 3), 0);
        moor.drop(0, 4);
        moor.settle();
        same("the latest: settle again", moor.many(5), 4);
        same("the latest: of 1 nothing", moor.ofSpot(1, 3), 0);
        moor.sweep();
        moor.keep();
        moor.add(1);
        same("the latest: an add of nothing", moor.many(5), 0);
    }

    /** What is no settle() and no add() leaves the AVALANCHE. */
    private static void avalancheStays() {
        Topplemoor moor = star(2, 1);
        put(moor, 3, 2);
        moor.keep();
        moor.settle();
        moor.drop(0, 2);
        moor.topple(0);
        moor.would(0, 5, 0);
        moor.isLasting();
        moor.neutral(1);
        moor.order();
        moor.canPay();
        moor.weakest();
        moor.digest();
        moor.walk(0);
        moor.sweep();
        same("AVALANCHE stays: of 0", moor.ofSpot(0, 3), 3);
        same("AVALANCHE stays: of 1", moor.ofSpot(1, 3), 2);
        put(moor, 99);
        refused("AVALANCHE stays: add of too much", moor, STATE, () -> moor.add(0));
        refused("AVALANCHE stays: add of no heap", moor, INDEX, () -> moor.add(1));
        moor.edge(0, SINK, 0);
        refused("AVALANCHE stays: settle", moor, STATE, moor::settle);
        same("AVALANCHE stays: of all", moor.many(5), 5);
        moor.spot();
        same("AVALANCHE: 0 of a spot that was told later", moor.ofSpot(2, 3), 0);
    }

    /** "A HEAP without a STEEP SPOT is LASTING, if ... each SPOT TOPPLES just once." */
    private static void lastingOnOneSpot() {
        for (int edges = 1; edges <= 3; edges++) {
            Topplemoor moor = star(1, edges);
            for (int grains = 0; grains < edges; grains++) {
                same("LASTING: " + grains + " of " + edges, moor.isLasting(), true);
                moor.drop(0, 1);
            }
            same("LASTING: not with a steep spot", moor.isLasting(), false);
        }
    }

    /** On a path that has one heap alone, each grain less is not lasting; on 6 spots the grain comes from one end. */
    private static void lastingOnAPath() {
        Topplemoor moor = path(6);
        put(moor, 0, 1, 1, 1, 1, 1);
        same("LASTING: the only one", moor.isLasting(), true);
        for (int less = 1; less < 6; less++) {
            Topplemoor lacking = path(6);
            for (int spot = 1; spot < 6; spot++) {
                if (spot != less) {
                    lacking.drop(spot, 1);
                }
            }
            same("LASTING: a grain less on " + less, lacking.isLasting(), false);
        }
        moor.drop(0, 1);
        same("LASTING: steep at the far end", moor.isLasting(), false);
    }

    /** "(false with a STEEP SPOT)": also if it is the last one, and all else lasts. */
    private static void notLastingIfSteep() {
        Topplemoor moor = star(6, 2);
        put(moor, 1, 1, 1, 1, 1, 1);
        same("a STEEP SPOT: none", moor.isLasting(), true);
        for (int spot = 0; spot < 6; spot++) {
            moor.drop(spot, 1);
            same("a STEEP SPOT: " + spot, moor.isLasting(), false);
            moor.topple(spot);
            moor.drop(spot, 1);
        }
        same("a STEEP SPOT: none again", moor.isLasting(), true);
    }

    /** "The NEUTRAL HEAP": of one heap alone it is that one; without EDGES to give, nothing. */
    private static void neutralHeaps() {
        Topplemoor tree = path(6);
        same("NEUTRAL: of the far end", tree.neutral(0), 0);
        for (int spot = 1; spot < 6; spot++) {
            same("NEUTRAL: of the path", tree.neutral(spot), 1);
        }
        Topplemoor apart = star(6, 3);
        for (int spot = 0; spot < 6; spot++) {
            // 4 is settled to 1, taken off 3 is left, and settled 0
            same("NEUTRAL: of spots apart", apart.neutral(spot), 0);
        }
        Topplemoor ring = triangle();
        // 2,2 is settled to 1,1; taken off 1,1 is left
        same("NEUTRAL: of a ring", ring.neutral(0), 1);
    }

    /** "COUNT (a long): the determinant ... (1 without SPOTS)." */
    private static void countWithoutSpots() {
        Topplemoor moor = new Topplemoor();
        same("COUNT: without SPOTS", moor.count(), 1);
        moor.spot();
        same("COUNT: a SPOT without EDGES", moor.count(), 0);
        moor.edge(0, SINK, 3);
        same("COUNT: one SPOT", moor.count(), 3);
        moor.spot();
        same("COUNT: not FAST any more", moor.count(), 0);
        same("COUNT: the most", full().count(), 12252303L);
        same("COUNT: six apart", star(6, 3).count(), 729);
    }

    /** Tables in which a part at the beginning has no heaps: the whole has none, either. */
    private static void countOfWhatIsCutOff() {
        Topplemoor first = spots(6);
        first.edge(0, 1, 3);
        for (int spot = 2; spot < 6; spot++) {
            first.edge(spot, SINK, 2);
        }
        same("COUNT: the first two cut off", first.count(), 0);
        Topplemoor last = star(6, 2);
        last.edge(4, SINK, 0);
        last.edge(5, SINK, 0);
        last.edge(4, 5, 3);
        same("COUNT: the last two cut off", last.count(), 0);
        last.edge(5, 0, 1);
        same("COUNT: joined", last.count(), 2 * 2 * 2 * 2 * 3);
    }

    /** "that has more EDGES to those that burn (the SINK, too) than GRAINS": just as many are not enough. */
    private static void fireNeedsMoreEdges() {
        for (int edges = 1; edges <= 3; edges++) {
            Topplemoor moor = star(1, edges);
            put(moor, edges - 1);
            same("FIRE: a grain fewer than edges", moor.fire(), 1);
            moor.drop(0, 1);
            same("FIRE: as many grains as edges", moor.fire(), 0);
        }
        Topplemoor chain = path(2);
        same("FIRE: along spots", chain.fire(), 21);
        chain.drop(0, 1);
        same("FIRE: as many grains as edges to those that burn", chain.fire(), 2);
    }

    /** "of the SPOTS that do not burn the one with the smallest number begins to": anew each time. */
    private static void fireTakesTheSmallest() {
        Topplemoor moor = star(4, 1);
        moor.edge(0, 3, 1);
        moor.drop(0, 1);
        // 0 waits for 3, which waits for 1 and 2 by its number
        same("FIRE: 0 waits for 3", moor.fire(), 2341);
        moor.edge(0, 1, 1);
        same("FIRE: 0 waits for 1 alone", moor.fire(), 2134);
    }

    /** "until there is none." */
    private static void fireEnds() {
        same("FIRE: without SPOTS", new Topplemoor().fire(), 0);
        same("FIRE: a SPOT without EDGES", spots(1).fire(), 0);
        same("FIRE: no way", cutOff().fire(), 0);
        same("FIRE: all six", full().fire(), 123456);
        same("FIRE: all six, from the end", path(6).fire(), 654321);
        Topplemoor part = path(6);
        part.drop(2, 1);
        same("FIRE: it stops in the middle", part.fire(), 654);
    }

    /** "KEPT: at most 4 HEAPS, numbered from 0; each has as many GRAINS as there were." */
    private static void keptAtMost4() {
        Topplemoor moor = star(2, 1);
        for (int heap = 0; heap < 4; heap++) {
            refused("at most 4: not there yet", moor, INDEX, () -> moor.kept(moor.many(8), 0));
            same("at most 4, numbered from 0", moor.keep(), heap);
            moor.drop(0, 10);
            moor.drop(1, 1);
        }
        refused("at most 4: a fifth", moor, STATE, moor::keep);
        moor.settle();
        moor.sweep();
        for (int heap = 0; heap < 4; heap++) {
            same("as many GRAINS as there were", moor.kept(heap, 0), 10 * heap);
            same("as many GRAINS as there were: of 1", moor.kept(heap, 1), heap);
        }
        refused("at most 4: still 4", moor, INDEX, () -> moor.kept(4, 0));
    }

    // ---- 3 rotors

    /** "The EDGES of a SPOT have places from 0 on, by the numbers of NEIGHBOURS (as often as there are EDGES)." */
    private static void placesByNumbers() {
        Topplemoor moor = spots(4);
        moor.edge(1, SINK, 2);
        moor.edge(1, 3, 1);
        moor.edge(1, 0, 2);
        moor.edge(0, SINK, 1);
        moor.edge(3, SINK, 1);
        moor.edge(2, SINK, 1);
        int[] due = {0, 0, 3, SINK, SINK};
        same("places: the first", moor.ofSpot(1, 6), due[0]);
        int seen = 0;
        for (int round = 0; round < 40; round++) {
            moor.walk(1);
            int place = moor.ofSpot(1, 5);
            same("places: the neighbour at " + place, moor.ofSpot(1, 6), due[place]);
            seen |= 1 << place;
        }
        same("places: all five", seen, 31);
    }

    /** "Its ROTOR points to one of them (0 at first ...)." */
    private static void rotor0AtFirst() {
        Topplemoor moor = spots(2);
        same("ROTOR 0 at first: without edges", moor.ofSpot(0, 5), 0);
        same("ROTOR 0 at first: points to none", moor.ofSpot(0, 6), NONE);
        moor.edge(0, SINK, 1);
        same("ROTOR 0 at first", moor.ofSpot(0, 5), 0);
        same("ROTOR 0 at first: the sink", moor.ofSpot(0, 6), SINK);
        moor.edge(0, 1, 3);
        same("ROTOR 0 at first: a neighbour ahead of it", moor.ofSpot(0, 5), 0);
        same("ROTOR 0 at first: points to it", moor.ofSpot(0, 6), 1);
    }

    /** ROTORS of 0, 1 and 2 at place 1: 0 and 1 to each other, then the SINK; 2 has two EDGES to it. */
    private static Topplemoor turned() {
        Topplemoor moor = star(3, 1);
        moor.edge(0, 1, 1);
        moor.edge(2, SINK, 2);
        for (int spot = 0; spot < 3; spot++) {
            if (moor.ofSpot(spot, 5) == 0) {
                moor.walk(spot);
            }
        }
        for (int spot = 0; spot < 3; spot++) {
            same("turned: " + spot, moor.ofSpot(spot, 5), 1);
        }
        return moor;
    }

    private static void places(String what, Topplemoor moor, int... due) {
        for (int spot = 0; spot < due.length; spot++) {
            same(what + ": rotor of " + spot, moor.ofSpot(spot, 5), due[spot]);
        }
    }

    /** "0 again with each edge() that names it, as one or other, also if there were as many." */
    private static void rotor0AgainByEdge() {
        Topplemoor moor = turned();
        moor.edge(0, SINK, 1);
        places("0 again: as one, as many as before", moor, 0, 1, 1);
        moor = turned();
        moor.edge(SINK, 0, 1);
        places("0 again: as other, as many as before", moor, 0, 1, 1);
        moor = turned();
        moor.edge(1, 0, 1);
        places("0 again: both", moor, 0, 0, 1);
        moor = turned();
        moor.edge(2, 1, 0);
        places("0 again: none between, before and behind", moor, 1, 0, 0);
        moor = turned();
        moor.edge(0, 1, 2);
        places("0 again: one more", moor, 0, 0, 1);
        moor = turned();
        moor.edge(2, SINK, 0);
        places("0 again: taken away", moor, 1, 1, 0);
        same("0 again: points to none", moor.ofSpot(2, 6), NONE);
    }

    /** What does not name a SPOT, or is refused, leaves its ROTOR. */
    private static void rotorStays() {
        Topplemoor moor = turned();
        refused("ROTOR stays: too many edges", moor, ARGUMENT, () -> moor.edge(0, 1, 4));
        refused("ROTOR stays: the same", moor, ARGUMENT, () -> moor.edge(1, 1, 1));
        refused("ROTOR stays: no such one", moor, INDEX, () -> moor.edge(2, 3, 1));
        moor.spot();
        moor.edge(3, SINK, 1);
        moor.drop(0, 2);
        moor.topple(0);
        moor.settle();
        moor.lend(1, false);
        moor.sweep();
        moor.keep();
        places("ROTOR stays", moor, 1, 1, 1, 0);
    }

    /** "turns its ROTOR to the next place (behind the last one 0), and goes where it points to." */
    private static void walkerTurnsFirst() {
        Topplemoor one = path(1);
        same("a WALKER: the only place", one.walk(0), 1);
        same("a WALKER: behind the last one 0", one.ofSpot(0, 5), 0);
        Topplemoor moor = spots(2);
        moor.edge(0, 1, 1);
        moor.edge(0, SINK, 1);
        // 0 turns to the SINK
        same("a WALKER: turns first", moor.walk(0), 1);
        // 0 turns back to 1, 1 sends it to 0, 0 turns to the SINK
        same("a WALKER: behind the last one 0", moor.walk(0), 3);
        same("a WALKER: steps ever", moor.many(12), 4);
        Topplemoor three = star(1, 3);
        for (int round = 1; round <= 7; round++) {
            three.walk(0);
            same("a WALKER: to the next place, behind the last one 0", three.ofSpot(0, 5), round % 3);
        }
        Topplemoor eighteen = full();
        for (int round = 0; round < 400; round++) {
            eighteen.walk(round % 6);
        }
        for (int spot = 0; spot < 6; spot++) {
            int place = eighteen.ofSpot(spot, 5);
            int to = place / 3 < spot ? place / 3 : place / 3 + 1;
            same("a WALKER: of 18 places", place >= 0 && place < 18, true);
            same("a WALKER: of 18 places, to", eighteen.ofSpot(spot, 6), to);
        }
    }

    /** "ROTORS are a TREE (also without SPOTS), if from each SPOT one comes to the SINK." */
    private static void rotorsAreATree() {
        Topplemoor moor = new Topplemoor();
        same("a TREE: without SPOTS", moor.many(13), 1);
        moor.spot();
        same("a TREE: not with a SPOT without EDGES", moor.many(13), 0);
        moor.edge(0, SINK, 2);
        same("a TREE: to the sink", moor.many(13), 1);
        moor.spot();
        same("a TREE: not with another without EDGES", moor.many(13), 0);
        moor.edge(1, SINK, 1);
        same("a TREE: each by itself", moor.many(13), 1);
        moor.edge(0, 1, 1);
        same("a TREE: not to and fro", moor.many(13), 0);
        moor.walk(1);
        // 1 turns to the SINK, 0 points to 1
        same("a TREE: one by the other", moor.many(13), 1);
    }

    /** The longest way that ROTORS can point: along all six. */
    private static void theLongestTree() {
        Topplemoor moor = spots(6);
        moor.edge(0, SINK, 1);
        for (int spot = 1; spot < 6; spot++) {
            moor.edge(spot, spot - 1, 1);
        }
        same("a TREE: 0 and 1 to and fro", moor.many(13), 0);
        // Of a path each rotor points towards its far end at first, but for its end: a walk from there turns all.
        moor.walk(5);
        for (int spot = 1; spot < 6; spot++) {
            same("a TREE: along all six, of " + spot, moor.ofSpot(spot, 6), spot - 1);
        }
        same("a TREE: along all six", moor.many(13), 1);
        moor.edge(3, 2, 0);
        same("a TREE: cut in the middle", moor.many(13), 0);
    }

    // ---- 4 money

    /** "Each SPOT, and the SINK, has COINS (0 at first; may be below 0)." */
    private static void coins0AtFirst() {
        Topplemoor moor = new Topplemoor();
        same("COINS 0 at first: the sink", moor.coins(SINK), 0);
        same("COINS may be below 0: the sink", moor.pay(SINK, -1), -1);
        moor.spot();
        same("COINS 0 at first: a spot", moor.coins(0), 0);
        same("COINS may be below 0: a spot", moor.pay(0, -9), -9);
        same("COINS may be below 0: lent", moor.edge(0, SINK, 3), 0);
        same("COINS may be below 0: lent", moor.lend(0, false), -12);
        same("COINS of all may be below 0", moor.many(9), -10);
        moor.spot();
        same("COINS 0 at first: told later", moor.coins(1), 0);
    }

    /** "one gives to each NEIGHBOUR as many COINS as there are EDGES between; to BORROW: it gets so many from each." */
    private static void lendAndBorrow() {
        Topplemoor moor = spots(4);
        moor.edge(0, 1, 3);
        moor.edge(0, 2, 1);
        moor.edge(0, SINK, 2);
        same("LEND: it has less", moor.lend(0, false), -6);
        coinsAre("LEND", moor, 3, 1, 0, 2);
        same("BORROW: it has more", moor.lend(0, true), 0);
        coinsAre("BORROW", moor, 0, 0, 0, 0);
        same("BORROW: again", moor.lend(0, true), 6);
        coinsAre("BORROW again", moor, -3, -1, 0, -2);
        same("LEND: without EDGES", moor.lend(3, false), 0);
        same("BORROW: without EDGES", moor.lend(3, true), 0);
        same("LEND: the sink", moor.lend(SINK, false), -4);
        same("LEND: the sink, to 0", moor.coins(0), 8);
        same("BORROW: the sink", moor.lend(SINK, true), -2);
        same("LEND, BORROW: all together", moor.many(9), 0);
    }

    /** Of 1, 2, 3 and the SINK. */
    private static void coinsAre(String what, Topplemoor moor, int of1, int of2, int of3, int ofSink) {
        same(what + ": of 1", moor.coins(1), of1);
        same(what + ": of 2", moor.coins(2), of2);
        same(what + ": of 3", moor.coins(3), of3);
        same(what + ": of the sink", moor.coins(SINK), ofSink);
    }

    /** "if by some row of LENDING and BORROWING nobody has fewer than 0 COINS": 0 is enough, one less is not. */
    private static void nobodyBelow0() {
        Topplemoor moor = path(6);
        same("PAID: 0 of each", moor.canPay(), true);
        moor.pay(0, -1);
        same("PAID: one less", moor.canPay(), false);
        for (int spot = 1; spot < 6; spot++) {
            moor.pay(spot, 1);
            same("PAID: of another", moor.canPay(), true);
            moor.pay(spot, -1);
        }
        moor.pay(SINK, 1);
        same("PAID: of the sink", moor.canPay(), true);
        moor.pay(SINK, -2);
        moor.pay(0, 1);
        same("PAID: the sink owes", moor.canPay(), false);
        moor.pay(5, 1);
        same("PAID: the sink owes, another has", moor.canPay(), true);
    }

    /** What is reached by lending alone can be paid back, whoever lent, and how often. */
    private static void whatWasLentIsPaidBack() {
        Topplemoor even = spots(3);
        even.edge(0, 1, 2);
        even.edge(1, 2, 1);
        even.edge(0, 2, 1);
        even.edge(2, SINK, 2);
        for (int round = 0; round < 60; round++) {
            int node = round % 7 < 3 ? round % 7 : SINK;
            even.lend(node, round % 5 < 2);
            same("PAID: lent to and fro " + round, even.canPay(), true);
            same("PAID: no coin too many " + round, even.weakest(), 0);
        }
        same("LEND leaves all together", even.many(9), 0);
    }

    /** "that is asked of a FAST moor alone": refused where it could be seen all the same. */
    private static void paidOnFastMoorsAlone() {
        Topplemoor moor = cutOff();
        refused("PAID: not FAST, nobody owes", moor, STATE, moor::canPay);
        refused("PAID: not FAST, nobody is weak", moor, STATE, moor::weakest);
        Topplemoor alone = new Topplemoor();
        refused("PAID: a sink alone", alone, STATE, alone::canPay);
        refused("PAID: a sink alone, weakest", alone, STATE, alone::weakest);
    }

    /** "LOOPS are all EDGES together, less SPOTS." */
    private static void loops() {
        same("LOOPS: without SPOTS", new Topplemoor().many(10), 0);
        same("LOOPS: below 0", spots(6).many(10), -6);
        same("LOOPS: of a path", path(6).many(10), 0);
        same("LOOPS: of a ring", triangle().many(10), 1);
        same("LOOPS: the most", full().many(10), 63 - 6);
        same("all EDGES, each once", full().many(1), 63);
    }

    // ---- behind the terms

    /** "A method that throws an exception changes nothing": whoever made refused calls goes on as one that did not. */
    private static void refusedCallsChangeNothing() {
        Topplemoor moor = lived();
        Topplemoor twin = lived();
        refuseAll(moor);
        same("changes nothing: the digest", moor.digest(), twin.digest());
        goOn(moor);
        goOn(twin);
        same("changes nothing: later on", moor.digest(), twin.digest());
        refuseAll(moor);
        same("changes nothing: not fast", moor.many(7), 0);
        same("changes nothing: the digest at the end", moor.digest(), twin.digest());
    }

    private static void refuseAll(Topplemoor moor) {
        int next = moor.many(0);
        int calls = 0;
        calls += isDue(INDEX, () -> moor.edge(0, next, 1)) ? 1 : 0;
        calls += isDue(ARGUMENT, () -> moor.edge(0, 1, 4)) ? 1 : 0;
        calls += isDue(ARGUMENT, () -> moor.edge(2, 2, 1)) ? 1 : 0;
        calls += isDue(INDEX, () -> moor.drop(next, 1)) ? 1 : 0;
        calls += isDue(ARGUMENT, () -> moor.drop(0, 41)) ? 1 : 0;
        calls += isDue(INDEX, () -> moor.topple(SINK)) ? 1 : 0;
        calls += isDue(INDEX, () -> moor.add(moor.many(8))) ? 1 : 0;
        calls += isDue(INDEX, () -> moor.walk(next)) ? 1 : 0;
        calls += isDue(ARGUMENT, () -> moor.pay(0, 10)) ? 1 : 0;
        calls += isDue(INDEX, () -> moor.pay(next, 1)) ? 1 : 0;
        calls += isDue(INDEX, () -> moor.lend(next, true)) ? 1 : 0;
        calls += isDue(ARGUMENT, () -> moor.would(0, 41, 0)) ? 1 : 0;
        same("changes nothing: all were refused", calls, 12);
    }

    private static void goOn(Topplemoor moor) {
        moor.drop(1, 4);
        moor.settle();
        moor.add(1);
        moor.walk(2);
        moor.lend(0, true);
        moor.spot();
    }

    /** "If several exceptions apply, the one that is named first is thrown": INDEX, then ARGUMENT, then STATE. */
    private static void theFirstNamedIsThrown() {
        Topplemoor moor = cutOff();
        put(moor, 99);
        refused("first: edge, one", moor, INDEX, () -> moor.edge(2, 2, 4));
        refused("first: edge, other", moor, INDEX, () -> moor.edge(0, 2, -1));
        refused("first: edge, the same and too many", moor, ARGUMENT, () -> moor.edge(0, 0, 4));
        refused("first: drop, index and argument", moor, INDEX, () -> moor.drop(2, 0));
        refused("first: drop, argument and state", moor, ARGUMENT, () -> moor.drop(0, 41));
        refused("first: drop, none of them", moor, ARGUMENT, () -> moor.drop(0, 0));
        refused("first: topple", moor, INDEX, () -> moor.topple(2));
        refused("first: add", moor, INDEX, () -> moor.add(0));
        refused("first: walk", moor, INDEX, () -> moor.walk(2));
        refused("first: pay", moor, INDEX, () -> moor.pay(2, 10));
        refused("first: ofSpot", moor, INDEX, () -> moor.ofSpot(2, 7));
        refused("first: would, all three", moor, INDEX, () -> moor.would(2, 41, 3));
        refused("first: would, index and state", moor, INDEX, () -> moor.would(2, 1, 0));
        refused("first: would, argument many and state", moor, ARGUMENT, () -> moor.would(0, 41, 0));
        refused("first: would, argument what and state", moor, ARGUMENT, () -> moor.would(0, 1, 3));
        refused("first: neutral", moor, INDEX, () -> moor.neutral(2));
        moor.keep();
        refused("first: add, both states", moor, STATE, () -> moor.add(0));
    }

    /** "what would be (nothing is changed)", and neither is by what is asked. */
    private static void questionsChangeNothing() {
        Topplemoor moor = lived();
        Topplemoor twin = lived();
        for (int spot = 0; spot < 3; spot++) {
            for (int what = 0; what <= 2; what++) {
                moor.would(spot, 40, what);
            }
            for (int what = 0; what <= 6; what++) {
                moor.ofSpot(spot, what);
            }
            moor.neutral(spot);
            moor.between(spot, SINK);
            moor.coins(spot);
            moor.kept(1, spot);
        }
        for (int what = 0; what <= 13; what++) {
            moor.many(what);
        }
        moor.isLasting();
        moor.fire();
        moor.order();
        moor.canPay();
        moor.weakest();
        moor.count();
        moor.density();
        same("nothing is changed", moor.digest(), twin.digest());
        same("nothing is changed: by the digest itself", moor.digest(), twin.digest());
        goOn(moor);
        goOn(twin);
        same("nothing is changed: later on", moor.digest(), twin.digest());
    }

    private static void aheadAndMoor() {
        all512Calls();
        the512thCallFindsWhatIsOwed();
        noneIsMinus1();
        aSetIsASum();
        atMost6Spots();
        theSinkHasTheNumber6();
        theSinkIsNoSpot();
        farNumbersAreNobody();
        edges0To3();
        degreeIsAllEdges();
        neighboursHaveEdges();
        withoutSpotsNotFast();
        aWayFromEachSpot();
        theLongestWays();
        notFastIsRefused();
        notFastIsAnswered();
    }

    private static void sand() {
        grains0AtFirst();
        steepOnlyWithEdges();
        steepFromDegreeOn();
        toppleGivesAlongEdges();
        swallowedIsCountedEver();
        settlesUntilNoneIsSteep();
        sameInAnyOrder();
        avalanche0AtFirst();
        avalancheOfTheLatest();
        avalancheStays();
        lastingOnOneSpot();
        lastingOnAPath();
        notLastingIfSteep();
        neutralHeaps();
        countWithoutSpots();
        countOfWhatIsCutOff();
        fireNeedsMoreEdges();
        fireTakesTheSmallest();
        fireEnds();
        keptAtMost4();
    }

    private static void rotorsAndMoney() {
        placesByNumbers();
        rotor0AtFirst();
        rotor0AgainByEdge();
        rotorStays();
        walkerTurnsFirst();
        rotorsAreATree();
        theLongestTree();
        coins0AtFirst();
        lendAndBorrow();
        nobodyBelow0();
        whatWasLentIsPaidBack();
        paidOnFastMoorsAlone();
        loops();
    }

    public static void main(String[] args) {
        aheadAndMoor();
        sand();
        rotorsAndMoney();
        refusedCallsChangeNothing();
        theFirstNamedIsThrown();
        questionsChangeNothing();
        end();
    }
}
