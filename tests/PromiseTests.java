/** Each promise of the document by itself: ordinary inputs, edges, wrong inputs, and which exception comes first. */
public final class PromiseTests extends Checks {
    private static void promise1NewObject() {
        Topplemoor moor = new Topplemoor();
        for (int what = 0; what <= 12; what++) {
            same("1 many(" + what + ")", moor.many(what), 0);
        }
        same("1 many(13)", moor.many(13), 1);
        same("1 count", moor.count(), 1);
        same("1 coins", moor.coins(SINK), 0);
        same("1 between", moor.between(SINK, SINK), 0);
        same("1 fire", moor.fire(), 0);
        sameDouble("1 density", moor.density(), 0.0);
        refused("1 ofSpot", moor, INDEX, () -> moor.ofSpot(0, 0));
        Topplemoor other = new Topplemoor();
        moor.spot();
        same("1 another object", other.many(0), 0);
    }

    private static void promise2Spot() {
        Topplemoor moor = new Topplemoor();
        for (int spot = 0; spot < 6; spot++) {
            same("2 spot", moor.spot(), spot);
            same("2 many(0)", moor.many(0), spot + 1);
            same("2 degree", moor.ofSpot(spot, 1), 0);
            same("2 grains", moor.ofSpot(spot, 0), 0);
        }
        refused("2 seventh spot", moor, STATE, moor::spot);
        Topplemoor later = triangle();
        later.spot();
        same("2 without edges it is not fast", later.many(7), 0);
    }

    private static void promise3Edge() {
        Topplemoor moor = spots(2);
        same("3 new", moor.edge(0, 1, 3), 0);
        same("3 again", moor.edge(1, 0, 2), 3);
        same("3 sink", moor.edge(SINK, 1, 1), 0);
        same("3 between", moor.between(0, 1), 2);
        same("3 other way", moor.between(1, 0), 2);
        same("3 degree", moor.ofSpot(1, 1), 3);
        same("3 taken away", moor.edge(0, 1, 0), 2);
        same("3 degree then", moor.ofSpot(1, 1), 1);
        refused("3 one", moor, INDEX, () -> moor.edge(2, 0, 1));
        refused("3 other", moor, INDEX, () -> moor.edge(0, 2, 1));
        refused("3 below 0", moor, INDEX, () -> moor.edge(-1, 0, 1));
        refused("3 above the sink", moor, INDEX, () -> moor.edge(0, 7, 1));
        refused("3 index first", moor, INDEX, () -> moor.edge(5, 5, 9));
        refused("3 same", moor, ARGUMENT, () -> moor.edge(1, 1, 1));
        refused("3 sink to sink", moor, ARGUMENT, () -> moor.edge(SINK, SINK, 0));
        refused("3 four", moor, ARGUMENT, () -> moor.edge(0, 1, 4));
        refused("3 minus one", moor, ARGUMENT, () -> moor.edge(0, 1, -1));
    }

    private static void promise3EdgeResetsRotors() {
        Topplemoor moor = path(3);
        moor.walk(0);
        same("3 turned 1", moor.ofSpot(1, 5), 1);
        same("3 turned 2", moor.ofSpot(2, 5), 1);
        same("3 as many as before", moor.edge(1, 0, 1), 1);
        same("3 reset", moor.ofSpot(1, 5), 0);
        same("3 not named", moor.ofSpot(2, 5), 1);
        moor.edge(SINK, 2, 1);
        same("3 reset as other", moor.ofSpot(2, 5), 0);
        moor.walk(0);
        try {
            moor.edge(1, 2, 4);
        } catch (IllegalArgumentException e) {
            same("3 a refused call resets nothing", moor.ofSpot(1, 5), 1);
        }
    }

    private static void promise4Drop() {
        Topplemoor moor = spots(2);
        same("4 drop", moor.drop(1, 1), 1);
        same("4 more", moor.drop(1, 40), 41);
        same("4 lies", moor.ofSpot(1, 0), 41);
        same("4 elsewhere", moor.ofSpot(0, 0), 0);
        moor.drop(1, 40);
        same("4 up to 99", moor.drop(1, 18), 99);
        refused("4 above 99", moor, STATE, () -> moor.drop(1, 1));
        refused("4 none", moor, ARGUMENT, () -> moor.drop(0, 0));
        refused("4 below 0", moor, ARGUMENT, () -> moor.drop(0, -1));
        refused("4 argument before state", moor, ARGUMENT, () -> moor.drop(1, 41));
        refused("4 index first", moor, INDEX, () -> moor.drop(2, 41));
        refused("4 sink", moor, INDEX, () -> moor.drop(SINK, 1));
        refused("4 minus one", moor, INDEX, () -> moor.drop(-1, 1));
        same("4 topples nothing", moor.many(4), 0);
    }

    private static void promise5Topple() {
        Topplemoor moor = spots(2);
        moor.edge(0, 1, 2);
        moor.edge(0, SINK, 3);
        put(moor, 12, 1);
        same("5 topple", moor.topple(0), 3);
        lies("5 once only", moor, 7, 3);
        same("5 between spots", moor.topple(1), 0);
        lies("5 back", moor, 9, 1);
        same("5 topples ever", moor.many(4), 2);
        same("5 swallowed ever", moor.many(3), 3);
        same("5 is no avalanche", moor.many(5), 0);
        refused("5 not steep", moor, STATE, () -> moor.topple(1));
        refused("5 no spot", moor, INDEX, () -> moor.topple(2));
        refused("5 sink", moor, INDEX, () -> moor.topple(SINK));
        refused("5 minus one", moor, INDEX, () -> moor.topple(-1));
        Topplemoor bare = spots(1);
        bare.drop(0, 5);
        refused("5 without edges", bare, STATE, () -> bare.topple(0));
        Topplemoor slow = spots(2);
        slow.edge(0, 1, 1);
        slow.drop(0, 1);
        same("5 also if not fast", slow.topple(0), 0);
        lies("5 moved", slow, 0, 1);
    }

    private static void promise6Settle() {
        Topplemoor moor = path(2);
        put(moor, 3, 0);
        // 3,0 -> 2,1 -> 1,2 -> 2,0 -> 1,1 -> 0,2 -> 1,0 -> 0,1
        same("6 settle", moor.settle(), 7);
        lies("6 settled", moor, 0, 1);
        same("6 times of 0", moor.ofSpot(0, 3), 5);
        same("6 times of 1", moor.ofSpot(1, 3), 2);
        same("6 swallowed", moor.many(3), 2);
        same("6 ever", moor.many(4), 7);
        same("6 settle again", moor.settle(), 0);
        same("6 the latest avalanche", moor.many(5), 0);
        same("6 ever stays", moor.many(4), 7);
        Topplemoor empty = new Topplemoor();
        refused("6 without spots", empty, STATE, empty::settle);
        moor.spot();
        refused("6 a spot without a way", moor, STATE, moor::settle);
        moor.edge(2, 0, 1);
        same("6 fast again", moor.settle(), 0);
    }

    private static void promise6SettlesMany() {
        Topplemoor moor = path(6);
        put(moor, 99, 99, 99, 99, 99, 99);
        Topplemoor byHand = path(6);
        put(byHand, 99, 99, 99, 99, 99, 99);
        int often = 0;
        for (int set = byHand.many(6); set != 0; set = byHand.many(6)) {
            byHand.topple(Integer.numberOfTrailingZeros(set));
            often++;
        }
        same("6 as one by one", moor.settle(), often);
        same("6 swallowed as one by one", moor.many(3), byHand.many(3));
        for (int spot = 0; spot < 6; spot++) {
            same("6 lies as one by one", moor.ofSpot(spot, 0), byHand.ofSpot(spot, 0));
        }
    }

    private static void promise7Keep() {
        Topplemoor moor = spots(2);
        put(moor, 5, 40);
        same("7 keep", moor.keep(), 0);
        moor.drop(0, 1);
        same("7 again", moor.keep(), 1);
        same("7 first as it was", moor.kept(0, 0), 5);
        same("7 second", moor.kept(1, 0), 6);
        same("7 lies on", moor.ofSpot(0, 0), 6);
        same("7 third", moor.keep(), 2);
        same("7 fourth", moor.keep(), 3);
        same("7 many(8)", moor.many(8), 4);
        refused("7 fifth", moor, STATE, moor::keep);
        same("7 of a moor without spots", new Topplemoor().keep(), 0);
    }

    private static void promise8Add() {
        Topplemoor moor = triangle();
        put(moor, 1, 1);
        moor.keep();
        // 2,2 -> 0,3 -> 1,1, each one once
        same("8 add", moor.add(0), 2);
        lies("8 added", moor, 1, 1);
        same("8 avalanche", moor.ofSpot(1, 3), 1);
        same("8 swallowed", moor.many(3), 2);
        same("8 kept stays", moor.kept(0, 1), 1);
        refused("8 no heap", moor, INDEX, () -> moor.add(1));
        refused("8 below 0", moor, INDEX, () -> moor.add(-1));
        refused("8 too far", moor, INDEX, () -> moor.add(4));
        moor.spot();
        refused("8 index before state", moor, INDEX, () -> moor.add(1));
        refused("8 not fast", moor, STATE, () -> moor.add(0));
        moor.edge(2, SINK, 1);
        same("8 told later had 0", moor.add(0), 2);
        same("8 so has it now", moor.ofSpot(2, 0), 0);
    }

    private static void promise8AddLimit() {
        Topplemoor moor = spots(1);
        moor.edge(0, SINK, 3);
        put(moor, 50);
        moor.keep();
        moor.sweep();
        put(moor, 49);
        same("8 up to 99", moor.add(0), 33);
        put(moor, 50);
        refused("8 above 99", moor, STATE, () -> moor.add(0));
        Topplemoor pushed = spots(2);
        pushed.keep();
        pushed.edge(0, 1, 3);
        pushed.edge(0, SINK, 1);
        put(pushed, 4, 99);
        pushed.topple(0);
        same("8 toppled above 99", pushed.ofSpot(1, 0), 102);
        refused("8 above 99 by itself", pushed, STATE, () -> pushed.add(0));
    }

    private static void promise9Sweep() {
        Topplemoor moor = triangle();
        put(moor, 3, 8);
        moor.keep();
        moor.settle();
        int times = moor.many(5);
        int swallowed = moor.many(3);
        same("9 sweep", moor.sweep(), 11 - swallowed);
        lies("9 gone", moor, 0, 0);
        same("9 kept stays", moor.kept(0, 1), 8);
        same("9 swallowed stays", moor.many(3), swallowed);
        same("9 avalanche stays", moor.many(5), times);
        same("9 nothing left", moor.sweep(), 0);
        same("9 without spots", new Topplemoor().sweep(), 0);
    }

    private static void promise10Walk() {
        Topplemoor moor = path(2);
        // 0 turns to its only place, 1 turns to the sink.
        same("10 walk", moor.walk(0), 2);
        same("10 rotor of 0", moor.ofSpot(0, 5), 0);
        same("10 rotor of 1", moor.ofSpot(1, 5), 1);
        same("10 points to the sink", moor.ofSpot(1, 6), SINK);
        // 1 turns back to 0, which sends it on; then the sink.
        same("10 again", moor.walk(1), 3);
        same("10 steps ever", moor.many(12), 5);
        same("10 moves no grains", moor.many(2), 0);
        Topplemoor thick = spots(2);
        thick.edge(0, 1, 1);
        thick.edge(0, SINK, 2);
        same("10 places of a neighbour", thick.walk(0), 1);
        same("10 place 1", thick.ofSpot(0, 5), 1);
        same("10 place 2 is the sink, too", thick.walk(0), 1);
        same("10 behind the last", thick.walk(0), 3);
        refused("10 no spot", moor, INDEX, () -> moor.walk(2));
        refused("10 sink", moor, INDEX, () -> moor.walk(SINK));
        moor.edge(1, SINK, 0);
        refused("10 not fast", moor, STATE, () -> moor.walk(0));
        refused("10 index first", moor, INDEX, () -> moor.walk(-1));
    }

    private static void promise11Pay() {
        Topplemoor moor = spots(1);
        same("11 pay", moor.pay(0, 9), 9);
        same("11 take", moor.pay(0, -9), 0);
        same("11 below 0", moor.pay(0, -4), -4);
        same("11 none", moor.pay(0, 0), -4);
        same("11 sink", moor.pay(SINK, 3), 3);
        same("11 coins", moor.coins(0), -4);
        refused("11 ten", moor, ARGUMENT, () -> moor.pay(0, 10));
        refused("11 minus ten", moor, ARGUMENT, () -> moor.pay(0, -10));
        refused("11 far below", moor, ARGUMENT, () -> moor.pay(0, Integer.MIN_VALUE));
        refused("11 index first", moor, INDEX, () -> moor.pay(1, 10));
        refused("11 minus one", moor, INDEX, () -> moor.pay(-1, 1));
        refused("11 seven", moor, INDEX, () -> moor.pay(7, 1));
    }

    private static void promise12Lend() {
        Topplemoor moor = spots(2);
        moor.edge(0, 1, 3);
        moor.edge(0, SINK, 1);
        same("12 lend", moor.lend(0, false), -4);
        same("12 to a neighbour", moor.coins(1), 3);
        same("12 to the sink", moor.coins(SINK), 1);
        same("12 borrow", moor.lend(1, true), 6);
        same("12 from a neighbour", moor.coins(0), -7);
        same("12 sink lends", moor.lend(SINK, false), 0);
        same("12 sink borrows", moor.lend(SINK, true), 1);
        same("12 of all", moor.many(9), 0);
        refused("12 no node", moor, INDEX, () -> moor.lend(2, true));
        refused("12 minus one", moor, INDEX, () -> moor.lend(-1, false));
        refused("12 seven", moor, INDEX, () -> moor.lend(7, false));
        same("12 alone", new Topplemoor().lend(SINK, false), 0);
    }

    private static void promise13OfSpot() {
        Topplemoor moor = path(2);
        moor.edge(0, SINK, 2);
        put(moor, 3, 1);
        same("13 grains", moor.ofSpot(0, 0), 3);
        same("13 degree", moor.ofSpot(0, 1), 3);
        same("13 to the sink", moor.ofSpot(0, 2), 2);
        same("13 steep", moor.ofSpot(0, 4), 1);
        same("13 not steep", moor.ofSpot(1, 4), 0);
        moor.settle();
        // 3,1 -> 0,2 -> 1,0
        same("13 toppled", moor.ofSpot(0, 3), 1);
        same("13 place", moor.ofSpot(0, 5), 0);
        same("13 points to", moor.ofSpot(0, 6), 1);
        moor.walk(0);
        same("13 next place", moor.ofSpot(0, 5), 1);
        same("13 points to the sink", moor.ofSpot(0, 6), SINK);
        moor.spot();
        moor.drop(2, 1);
        same("13 told later", moor.ofSpot(2, 3), 0);
        same("13 not steep without edges", moor.ofSpot(2, 4), 0);
        same("13 no place", moor.ofSpot(2, 5), 0);
        same("13 points to none", moor.ofSpot(2, 6), NONE);
        refused("13 what", moor, ARGUMENT, () -> moor.ofSpot(0, 7));
        refused("13 what below 0", moor, ARGUMENT, () -> moor.ofSpot(0, -1));
        refused("13 index first", moor, INDEX, () -> moor.ofSpot(3, 7));
        refused("13 sink", moor, INDEX, () -> moor.ofSpot(SINK, 0));
        refused("13 minus one", moor, INDEX, () -> moor.ofSpot(-1, 0));
    }

    private static void promise14Between() {
        Topplemoor moor = spots(3);
        moor.edge(0, 2, 3);
        moor.edge(SINK, 1, 2);
        same("14 between", moor.between(2, 0), 3);
        same("14 sink", moor.between(1, SINK), 2);
        same("14 from the sink", moor.between(SINK, 1), 2);
        same("14 none", moor.between(0, 1), 0);
        same("14 same", moor.between(0, 0), 0);
        refused("14 one", moor, INDEX, () -> moor.between(3, 0));
        refused("14 other", moor, INDEX, () -> moor.between(0, 3));
        refused("14 minus one", moor, INDEX, () -> moor.between(SINK, -1));
        refused("14 seven", moor, INDEX, () -> moor.between(7, SINK));
    }

    private static void promise15Coins() {
        Topplemoor moor = spots(1);
        moor.pay(0, -2);
        moor.pay(SINK, 5);
        same("15 spot", moor.coins(0), -2);
        same("15 sink", moor.coins(SINK), 5);
        refused("15 no spot", moor, INDEX, () -> moor.coins(1));
        refused("15 minus one", moor, INDEX, () -> moor.coins(-1));
        refused("15 seven", moor, INDEX, () -> moor.coins(7));
    }

    private static void promise16Kept() {
        Topplemoor moor = spots(2);
        put(moor, 3, 99);
        moor.keep();
        moor.spot();
        moor.drop(2, 7);
        same("16 kept", moor.kept(0, 1), 99);
        same("16 told later", moor.kept(0, 2), 0);
        refused("16 heap", moor, INDEX, () -> moor.kept(1, 0));
        refused("16 spot", moor, INDEX, () -> moor.kept(0, 3));
        refused("16 sink", moor, INDEX, () -> moor.kept(0, SINK));
        refused("16 heap below 0", moor, INDEX, () -> moor.kept(-1, 0));
        refused("16 spot below 0", moor, INDEX, () -> moor.kept(0, -1));
    }

    private static void promise17Many() {
        Topplemoor moor = spots(3);
        moor.edge(0, 1, 2);
        moor.edge(1, 2, 1);
        moor.edge(2, SINK, 3);
        put(moor, 2, 2, 4);
        int[] due = {3, 6, 8, 0, 0, 0, 5, 1, 0, 0, 3, 0, 0, 0};
        for (int what = 0; what < due.length; what++) {
            same("17 many(" + what + ")", moor.many(what), due[what]);
        }
        moor.keep();
        // 2,3,0 settles by 0, 1, 0, 1: 0,5,0 2,2,1 0,4,1 2,1,2; then 0: 0,3,2; 1: 2,0,3; 0: 0,2,3
        moor.topple(2);
        same("17 toppled by hand is no avalanche", moor.many(5), 0);
        same("17 settled", moor.settle(), 7);
        lies("17 settled", moor, 0, 2, 3);
        same("17 topples ever", moor.many(4), 8);
        same("17 in the avalanche", moor.many(5), 7);
        same("17 swallowed", moor.many(3), 3);
        same("17 grains", moor.many(2), 5);
        same("17 kept", moor.many(8), 1);
        moor.pay(0, -3);
        moor.pay(2, 9);
        moor.pay(SINK, -4);
        same("17 coins", moor.many(9), 2);
        same("17 below 0", moor.many(11), 2);
        int steps = moor.walk(0);
        same("17 steps", moor.many(12), steps);
        same("17 tree behind a walk from the far end", moor.many(13), 1);
        refused("17 what", moor, ARGUMENT, () -> moor.many(14));
        refused("17 below 0", moor, ARGUMENT, () -> moor.many(-1));
        Topplemoor one = spots(1);
        same("17 a spot alone is no tree", one.many(13), 0);
        same("17 loops may be below 0", one.many(10), -1);
        one.edge(0, SINK, 1);
        same("17 points to the sink", one.many(13), 1);
    }

    private static void promise18Count() {
        same("18 triangle", triangle().count(), 3);
        same("18 path", path(6).count(), 1);
        same("18 without spots", new Topplemoor().count(), 1);
        same("18 a spot alone", spots(1).count(), 0);
        Topplemoor apart = spots(3);
        apart.edge(0, 1, 2);
        apart.edge(2, SINK, 3);
        same("18 not fast", apart.count(), 0);
        Topplemoor hole = spots(2);
        hole.edge(1, SINK, 1);
        same("18 a spot apart, the first one", hole.count(), 0);
        same("18 all edges", full().count(), 729L * 16807L);
    }

    private static void promise19Density() {
        Topplemoor moor = spots(3);
        sameDouble("19 none", moor.density(), 0.0);
        moor.drop(0, 1);
        sameDouble("19 1/3", moor.density(), 0.25);
        moor.drop(1, 1);
        sameDouble("19 2/3", moor.density(), 0.75);
        moor.drop(2, 2);
        sameDouble("19 4/3", moor.density(), 1.25);
        moor.spot();
        moor.spot();
        sameDouble("19 4/5", moor.density(), 0.75);
        moor.drop(0, 3);
        sameDouble("19 7/5", moor.density(), 1.5);
        moor.spot();
        moor.drop(0, 4);
        sameDouble("19 11/6", moor.density(), 1.75);
        sameDouble("19 without spots", new Topplemoor().density(), 0.0);
    }

    private static void promise20Would() {
        Topplemoor moor = path(2);
        put(moor, 2, 0);
        long before = moor.digest();
        // 3,0 as above: 7 topples, 2 swallowed
        same("20 topples", moor.would(0, 1, 0), 7);
        same("20 swallowed", moor.would(0, 1, 1), 2);
        same("20 set", moor.would(0, 1, 2), 3);
        moor.sweep();
        same("20 set of one", moor.would(1, 0, 2), 0);
        put(moor, 2, 0);
        same("20 changes nothing", moor.digest(), before);
        put(moor, 97, 0);
        same("20 above 99", moor.would(0, 40, 1), 138);
        Topplemoor wide = spots(2);
        wide.edge(0, SINK, 3);
        wide.edge(1, SINK, 3);
        same("20 the second alone", wide.would(1, 3, 2), 2);
        refused("20 41", moor, ARGUMENT, () -> moor.would(0, 41, 0));
        refused("20 minus one grain", moor, ARGUMENT, () -> moor.would(0, -1, 0));
        refused("20 what", moor, ARGUMENT, () -> moor.would(0, 1, 3));
        refused("20 what below 0", moor, ARGUMENT, () -> moor.would(0, 1, -1));
        refused("20 index first", moor, INDEX, () -> moor.would(2, 41, 3));
        refused("20 sink", moor, INDEX, () -> moor.would(SINK, 1, 0));
        moor.edge(1, SINK, 0);
        refused("20 not fast", moor, STATE, () -> moor.would(0, 0, 0));
        refused("20 argument before state", moor, ARGUMENT, () -> moor.would(0, 0, 3));
        refused("20 index before state", moor, INDEX, () -> moor.would(-1, 0, 0));
    }

    private static void promise21IsLasting() {
        int[][] lasting = {{1, 1}, {1, 0}, {0, 1}};
        for (int[] grains : lasting) {
            Topplemoor moor = triangle();
            put(moor, grains);
            same("21 lasting", moor.isLasting() ? 1 : 0, 1);
            lies("21 changes nothing", moor, grains);
        }
        Topplemoor moor = triangle();
        same("21 nothing lies", moor.isLasting() ? 1 : 0, 0);
        put(moor, 2, 0);
        same("21 steep", moor.isLasting() ? 1 : 0, 0);
        moor.edge(0, SINK, 0);
        moor.edge(1, SINK, 0);
        refused("21 not fast", moor, STATE, moor::isLasting);
        Topplemoor empty = new Topplemoor();
        refused("21 without spots", empty, STATE, empty::isLasting);
    }

    /** As many LASTING HEAPS as COUNT says, over all heaps that are not steep. */
    private static void promise21AsManyAsCount() {
        Topplemoor moor = spots(3);
        moor.edge(0, 1, 1);
        moor.edge(1, 2, 2);
        moor.edge(0, 2, 1);
        moor.edge(2, SINK, 2);
        int lasting = 0;
        for (int heap = 0; heap < 2 * 3 * 5; heap++) {
            moor = spots(3);
            moor.edge(0, 1, 1);
            moor.edge(1, 2, 2);
            moor.edge(0, 2, 1);
            moor.edge(2, SINK, 2);
            put(moor, heap % 2, heap / 2 % 3, heap / 6);
            lasting += moor.isLasting() ? 1 : 0;
        }
        same("21 lasting heaps", lasting, moor.count());
    }

    private static void promise22Neutral() {
        Topplemoor moor = triangle();
        put(moor, 7, 0);
        same("22 of 0", moor.neutral(0), 1);
        same("22 of 1", moor.neutral(1), 1);
        lies("22 changes nothing", moor, 7, 0);
        Topplemoor one = spots(1);
        one.edge(0, SINK, 3);
        same("22 of one spot", one.neutral(0), 0);
        refused("22 no spot", moor, INDEX, () -> moor.neutral(2));
        refused("22 sink", moor, INDEX, () -> moor.neutral(SINK));
        moor.spot();
        refused("22 not fast", moor, STATE, () -> moor.neutral(0));
        refused("22 index first", moor, INDEX, () -> moor.neutral(-1));
    }

    private static void promise23Fire() {
        Topplemoor moor = triangle();
        same("23 all", moor.fire(), 12);
        put(moor, 1, 0);
        // 0 has one edge to the sink and a grain, so 1 begins.
        same("23 the other first", moor.fire(), 21);
        put(moor, 0, 1);
        same("23 none", moor.fire(), 0);
        Topplemoor half = path(3);
        put(half, 0, 1, 0);
        same("23 stops", half.fire(), 3);
        Topplemoor back = path(3);
        same("23 from the far end", back.fire(), 321);
        Topplemoor slow = spots(2);
        slow.edge(1, SINK, 1);
        same("23 also if not fast", slow.fire(), 2);
        Topplemoor six = spots(6);
        for (int spot = 0; spot < 6; spot++) {
            six.edge(spot, SINK, 3);
            six.drop(spot, 2);
        }
        same("23 six", six.fire(), 123456);
    }

    private static void promise24Order() {
        Topplemoor moor = triangle();
        same("24 nothing lies", moor.order(), 1);
        put(moor, 1, 0);
        same("24 of three", moor.order(), 3);
        lies("24 changes nothing", moor, 1, 0);
        put(moor, 0, 1);
        same("24 the neutral heap itself", moor.order(), 1);
        put(moor, 1, 0);
        same("24 as it would be settled", moor.order(), 3);
        lies("24 steep still", moor, 2, 1);
        moor.edge(0, 1, 0);
        moor.edge(0, SINK, 0);
        refused("24 not fast", moor, STATE, moor::order);
    }

    private static void promise24TheHundredth() {
        Topplemoor hundred = hundredHeaps();
        same("24 a hundred heaps", hundred.count(), 100);
        same("24 by the 100th time", hundred.order(), 100);
        Topplemoor more = hundredAndOneHeaps();
        same("24 a heap more", more.count(), 101);
        same("24 not by the 100th time", more.order(), NONE);
    }

    private static void promise25CanPay() {
        Topplemoor moor = path(1);
        same("25 nobody owes", moor.canPay() ? 1 : 0, 1);
        moor.pay(0, -9);
        same("25 too little", moor.canPay() ? 1 : 0, 0);
        moor.pay(SINK, 9);
        same("25 on a tree all can be paid", moor.canPay() ? 1 : 0, 1);
        same("25 changes nothing", moor.coins(0), -9);
        // On the triangle one coin of 0 against one of 1 cannot be paid, three can.
        Topplemoor ring = triangle();
        ring.pay(0, 1);
        ring.pay(1, -1);
        same("25 not on a ring", ring.canPay() ? 1 : 0, 0);
        ring.pay(0, 2);
        ring.pay(1, -2);
        same("25 three can", ring.canPay() ? 1 : 0, 1);
        ring.spot();
        refused("25 not fast", ring, STATE, ring::canPay);
        // Three edges carry three coins at a time, or none.
        Topplemoor thick = spots(1);
        thick.edge(0, SINK, 3);
        for (int owed = 1; owed <= 6; owed++) {
            thick.pay(0, -1);
            thick.pay(SINK, 1);
            same("25 owed " + owed, thick.canPay() ? 1 : 0, owed % 3 == 0 ? 1 : 0);
        }
        thick.lend(0, true);
        thick.lend(0, true);
        thick.lend(0, true);
        same("25 lent to and fro", thick.canPay() ? 1 : 0, 1);
        thick.pay(SINK, -1);
        same("25 a coin too few", thick.canPay() ? 1 : 0, 0);
        Topplemoor empty = new Topplemoor();
        refused("25 without spots", empty, STATE, empty::canPay);
    }

    private static void promise26Weakest() {
        Topplemoor moor = path(2);
        same("26 no coin to lose", moor.weakest(), 0);
        moor.pay(1, 1);
        same("26 a coin for any", moor.weakest(), NONE);
        Topplemoor ring = triangle();
        ring.pay(0, 1);
        same("26 only 0 may lose it", ring.weakest(), 1);
        ring.pay(0, -1);
        ring.pay(1, 1);
        same("26 only 1 may", ring.weakest(), 0);
        ring.pay(0, 1);
        ring.pay(SINK, 1);
        same("26 enough", ring.weakest(), NONE);
        ring.pay(SINK, -9);
        same("26 cannot be paid as it is", ring.weakest(), 0);
        same("26 changes nothing", ring.coins(SINK), -8);
        ring.edge(0, 1, 0);
        ring.edge(0, SINK, 0);
        refused("26 not fast", ring, STATE, ring::weakest);
    }

    /** One EDGE joins 0 and 1, so that a coin may go from one to the other; two lead to the SINK. */
    private static void promise26TheSink() {
        Topplemoor moor = path(2);
        moor.edge(1, SINK, 2);
        moor.pay(0, 1);
        same("26 the sink", moor.weakest(), SINK);
        moor.pay(0, -1);
        moor.pay(SINK, 1);
        same("26 a coin of the sink's", moor.weakest(), 0);
        moor.pay(0, 1);
        same("26 two coins", moor.weakest(), NONE);
    }

    private static long digestByHand(Topplemoor moor) {
        long d = 58310;
        for (int what = 0; what <= 13; what++) {
            d = d * 31 + moor.many(what);
        }
        int spots = moor.many(0);
        for (int spot = 0; spot < spots; spot++) {
            for (int what = 0; what <= 6; what++) {
                d = d * 31 + moor.ofSpot(spot, what);
            }
        }
        for (int index = 0; index <= spots; index++) {
            int node = index < spots ? index : SINK;
            d = d * 31 + moor.coins(node);
            for (int spot = 0; spot < spots; spot++) {
                d = d * 31 + moor.between(node, spot);
            }
            d = d * 31 + moor.between(node, SINK);
        }
        for (int heap = 0; heap < moor.many(8); heap++) {
            for (int spot = 0; spot < spots; spot++) {
                d = d * 31 + moor.kept(heap, spot);
            }
        }
        d = (d * 31 + moor.count()) * 31 + moor.fire();
        if (moor.many(7) == 0) {
            return d;
        }
        d = d * 31 + (moor.isLasting() ? 1 : 0);
        for (int spot = 0; spot < spots; spot++) {
            d = (d * 31 + moor.neutral(spot)) * 31 + moor.would(spot, 1, 0);
        }
        return (d * 31 + (moor.canPay() ? 1 : 0)) * 31 + moor.weakest();
    }

    private static void promise27Digest() {
        Topplemoor moor = new Topplemoor();
        same("27 new", moor.digest(), digestByHand(moor));
        moor.spot();
        moor.spot();
        same("27 not fast", moor.digest(), digestByHand(moor));
        moor.edge(0, 1, 2);
        moor.edge(1, SINK, 3);
        put(moor, 12, 3);
        moor.keep();
        same("27 fast", moor.digest(), digestByHand(moor));
        moor.sweep();
        same("27 with a fire", moor.fire(), 21);
        same("27 with a fire", moor.digest(), digestByHand(moor));
        put(moor, 12, 3);
        moor.settle();
        moor.keep();
        moor.pay(0, -4);
        moor.pay(SINK, 7);
        moor.walk(0);
        same("27 lived", moor.digest(), digestByHand(moor));
        same("27 changes nothing", moor.digest(), digestByHand(moor));
        Topplemoor six = path(6);
        put(six, 1, 0, 7, 0, 2, 99);
        same("27 six spots", six.digest(), digestByHand(six));
        six.pay(5, 4);
        six.edge(5, 1, 3);
        six.lend(1, true);
        six.settle();
        six.keep();
        six.walk(0);
        same("27 six spots, lived", six.digest(), digestByHand(six));
    }

    private static void sand() {
        promise4Drop();
        promise5Topple();
        promise6Settle();
        promise6SettlesMany();
        promise7Keep();
        promise8Add();
        promise8AddLimit();
        promise9Sweep();
        promise10Walk();
    }

    private static void moneyAndWhatIsAsked() {
        promise11Pay();
        promise12Lend();
        promise13OfSpot();
        promise14Between();
        promise15Coins();
        promise16Kept();
        promise17Many();
        promise18Count();
        promise19Density();
    }

    private static void whatWouldBe() {
        promise20Would();
        promise21IsLasting();
        promise21AsManyAsCount();
        promise22Neutral();
        promise23Fire();
        promise24Order();
        promise24TheHundredth();
        promise25CanPay();
        promise26Weakest();
        promise26TheSink();
        promise27Digest();
    }

    public static void main(String[] args) {
        promise1NewObject();
        promise2Spot();
        promise3Edge();
        promise3EdgeResetsRotors();
        sand();
        moneyAndWhatIsAsked();
        whatWouldBe();
        end();
    }
}
