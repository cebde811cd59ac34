/** Boundary cases of the terms that tell what the railway is and does. */
final class TermsCases extends Cases {
    TermsCases() {
        section("What it is");
        useOfOneObject();
        section("Terms");
        blocks();
        trains();
        routes();
        reservations();
        order();
        staying();
        waiting();
        moving();
        arriving();
        blocking();
    }

    private void useOfOneObject() {
        holds("An object is used for at most 512 calls after it has been made; what later calls answer is free.", () -> {
            SofaRailway x = Scene.jammedRing(6);
            int calls = 24;
            while (calls < 505) {
                x.passTicks(50);
                calls++;
            }
            Check.same("call 506", x.ticks(), 24050);
            Check.same("call 507", x.waits(5), 24050);
            Check.same("call 508", x.deadlocked(), 6);
            Check.same("call 509", x.addBlock(9), 6);
            Check.same("call 510", x.undo(), 7);
            Check.same("call 511", x.undo(), 6);
            Check.same("call 512", x.ticks(), 24000);
        });
    }

    private void blocks() {
        holds("There are at most 14 blocks; their indices start at 0 and follow the order in which they were added.",
                () -> {
            SofaRailway x = new SofaRailway();
            Check.index("none at first", () -> x.length(0));
            for (int block = 0; block < 14; block++) {
                int length = 1 + block % 9;
                Check.same("index", block % 3 == 0 ? x.addCushion(length) : x.addBlock(length), block);
            }
            for (int block = 0; block < 14; block++) {
                Check.same("length " + block, x.length(block), 1 + block % 9);
            }
            Check.state("one more", () -> x.addBlock(1));
            Check.state("one more cushion", () -> x.addCushion(1));
        });
        holds("A block has a length from 1 to 9 and is a cushion or a plain block.", () -> {
            SofaRailway x = Sofa.of(1, -1, 9, -9);
            Check.same("lengths", x.length(0) + x.length(1) + x.length(2) + x.length(3), 20);
            Check.no("a plain block is no cushion", x.isCushion(0) || x.isCushion(2));
            Check.yes("a cushion is one", x.isCushion(1) && x.isCushion(3));
            Check.argument("0", () -> x.addBlock(0));
            Check.argument("10", () -> x.addBlock(10));
            Check.argument("0 for a cushion", () -> x.addCushion(0));
            Check.argument("10 for a cushion", () -> x.addCushion(10));
            Check.same("0 by a command", Sofa.attempt(x, "block 0"), "UnsupportedOperationException");
            Check.same("10 by a command", Sofa.attempt(x, "cushion 10"), "IllegalArgumentException");
        });
        holds("Two different blocks can be linked; a link has no direction.", () -> {
            SofaRailway x = Sofa.of(1, 1);
            Check.argument("the same block", () -> x.link(0, 0));
            x.link(1, 0);
            Check.yes("either way", x.areLinked(0, 1) && x.areLinked(1, 0));
            Check.same("one link at each", x.degree(0) + x.degree(1), 2);
            Check.state("is linked the other way too", () -> x.link(0, 1));
            Check.same("a route there and back", x.distance(0, 1) + x.distance(1, 0), 2);
            Check.same("removed the other way", x.unlink(0, 1), 0);
        });
        holds("A cat can sit on a block.", () -> {
            SofaRailway x = Scene.fullBlocks();
            for (int block = 0; block < 14; block++) {
                Check.same("cats", x.putCat(block), block + 1);
            }
            Check.state("one only", () -> x.putCat(0));
        });
    }

    private void trains() {
        holds("Two trains are never in the same block.", () -> {
            SofaRailway x = Sofa.of(-1, 1, -1);
            Sofa.links(x, 0, 1, 1, 2);
            x.addTrain(0, 5);
            x.addTrain(2, 5);
            x.setGoal(0, 2);
            x.setGoal(1, 0);
            x.passTicks(50);
            Check.same("they face each other", x.blockOf(0) * 10 + x.blockOf(1), 12);
            Check.unsupported("nor is one added", () -> x.addTrain(1, 1));
            SofaRailway ring = Scene.jammedRing(6);
            ring.passTicks(50);
            for (int train = 0; train < 6; train++) {
                Check.same("in a full ring", ring.blockOf(train), train);
            }
        });
        holds("There are at most 6 trains; their indices start at 0 and follow the order in which they were added.",
                () -> {
            SofaRailway x = Scene.fullBlocks();
            Check.index("none at first", () -> x.blockOf(0));
            for (int train = 0; train < 6; train++) {
                Check.same("index", x.addTrain(13 - 2 * train, 1 + train), train);
            }
            for (int train = 0; train < 6; train++) {
                Check.same("block", x.blockOf(train), 13 - 2 * train);
            }
            Check.state("one more", () -> x.addTrain(0, 1));
        });
        holds("A train is in one block, alone, and has a priority from 1 to 9, a number of remaining ticks, initially 0, "
                + "and perhaps a goal, which is a cushion.", () -> {
            SofaRailway x = Sofa.line(9, 9, -9);
            x.addTrain(0, 1);
            Check.same("remaining ticks", x.remainingTicks(0), 0);
            Check.missing("no goal", () -> x.goal(0));
            Check.unsupported("alone", () -> x.addTrain(0, 1));
            Check.argument("priority 0", () -> x.addTrain(1, 0));
            Check.argument("priority 10", () -> x.addTrain(1, 10));
            Check.same("priority 9", x.addTrain(1, 9), 1);
            Check.argument("a plain block is no goal", () -> x.setGoal(0, 1));
            x.setGoal(1, 2);
            x.passTicks(1);
            Check.same("in one block", x.trainIn(2), 1);
            Check.missing("and no longer in the other", () -> x.trainIn(1));
        });
        holds("A train can be derailed.", () -> {
            SofaRailway x = Sofa.line(1, 1, -1);
            x.addTrain(0, 5);
            Check.no("not at first", x.isDerailed(0));
            x.setGoal(0, 2);
            x.putCat(1);
            x.putCat(2);
            x.passTicks(1);
            Check.yes("by a cat", x.isDerailed(0));
            x.rescue(0);
            Check.no("not when it is rescued", x.isDerailed(0));
            x.passTicks(2);
            Check.yes("and once more", x.isDerailed(0));
        });
    }

    private void routes() {
        holds("A route from one block to another one leads over links from block to block.", () -> {
            SofaRailway x = Sofa.of(1, 1, 1);
            Check.missing("no links", () -> x.distance(0, 1));
            x.link(0, 2);
            Check.missing("neighbours by index are not linked", () -> x.distance(0, 1));
            x.link(2, 1);
            Check.same("over another block", x.distance(0, 1), 2);
            Check.same("and back", x.distanceByRounds(1, 0), 2);
        });
        holds("Its length is the sum of the lengths of its blocks without the first one, so that it is 0 from a block to "
                + "itself.", () -> {
            SofaRailway x = Sofa.line(9, 1, 2);
            Check.same("without the first", x.distance(0, 2), 3);
            Check.same("backwards", x.distance(2, 0), 10);
            Check.same("by rounds", x.distanceByRounds(2, 0), 10);
            Check.same("to itself", x.distance(1, 1), 0);
            Check.same("to itself by rounds", x.distanceByRounds(0, 0), 0);
        });
        holds("Trains, cats and reservations do not matter for routes.", () -> {
            SofaRailway x = Sofa.line(1, 2, 3, -4);
            x.addTrain(0, 5);
            x.addTrain(1, 5);
            x.putCat(2);
            x.reserve(1, 2);
            Check.same("distance", x.distance(0, 3), 9);
            Check.same("distance by rounds", x.distanceByRounds(0, 3), 9);
            Check.same("parts", x.partCount() + x.partCountByUnions(), 2);
            Check.same("nearest cushion", x.nearestCushion(0), 3);
            Check.same("setGoal", x.setGoal(0, 3), 9);
            Check.same("next block", x.nextBlock(0), 1);
        });
        holds("The next block of a train with a goal in another block, derailed or not, is the second block of a "
                + "shortest route from its block to its goal; if there are several, it is the one with the smallest "
                + "index.", () -> {
            SofaRailway x = Sofa.of(1, 1, 2, 2, 1, -1, 3);
            Sofa.links(x, 0, 3, 3, 5, 0, 2, 2, 5, 0, 6, 6, 5);
            x.addTrain(0, 5);
            x.setGoal(0, 5);
            Check.same("the smallest of two", x.nextBlock(0), 2);
            Sofa.links(x, 0, 4, 4, 1, 1, 5);
            Check.same("the smallest of three, of which one has more blocks", x.nextBlock(0), 2);
            x.unlink(2, 5);
            Check.same("of two again", x.nextBlock(0), 3);
            x.unlink(3, 5);
            Check.same("over more blocks", x.nextBlock(0), 4);
            x.unlink(4, 1);
            Check.same("the only one", x.nextBlock(0), 6);
            Check.same("of a derailed train", Scene.derailed(1).nextBlock(0), 2);
            SofaRailway back = Sofa.of(-1, 9, 1, 1);
            Sofa.links(back, 3, 1, 3, 2, 2, 1, 1, 0);
            back.addTrain(3, 5);
            back.setGoal(0, 0);
            Check.same("not over a block more", back.nextBlock(0), 1);
        });
    }

    private void reservations() {
        holds("A train can reserve a block that is linked with its block.", () -> {
            SofaRailway x = Sofa.line(1, 1, 1);
            x.addTrain(0, 5);
            Check.argument("its own block", () -> x.reserve(0, 0));
            Check.argument("two links away", () -> x.reserve(0, 2));
            Check.same("linked", x.reserve(0, 1), 1);
            SofaRailway other = Sofa.of(1, 1);
            other.link(1, 0);
            other.addTrain(0, 5);
            Check.same("linked the other way", other.reserve(0, 1), 1);
        });
        holds("A block has at most one reservation, and a train has at most one reservation.", () -> {
            SofaRailway x = Sofa.line(1, 1, 1, 1);
            x.addTrain(0, 5);
            x.addTrain(2, 5);
            x.reserve(0, 1);
            Check.unsupported("the block", () -> x.reserve(1, 1));
            x.link(0, 3);
            Check.state("the train", () -> x.reserve(0, 3));
            Check.same("the other train another block", x.reserve(1, 3), 2);
        });
    }

    /** Trains in blocks 0 and 1 that both go through block 2 to the cushion 3, after a tick. */
    private static SofaRailway rivals(int first, int second) {
        SofaRailway x = Sofa.of(1, 1, 1, -1);
        Sofa.links(x, 0, 2, 1, 2, 2, 3);
        return afterATick(x, first, second);
    }

    /** The same, but block 0 is behind block 1. */
    private static SofaRailway chasing(int first, int second) {
        return afterATick(Sofa.line(1, 1, 1, -1), first, second);
    }

    private static SofaRailway afterATick(SofaRailway x, int first, int second) {
        x.addTrain(0, first);
        x.addTrain(1, second);
        x.setGoal(0, 3);
        x.setGoal(1, 3);
        x.passTicks(1);
        return x;
    }

    private void order() {
        holds("In a tick, the trains are considered one after the other, the highest priority first, and the smallest "
                + "index first for equal priorities.", () -> {
            Check.same("a higher priority", rivals(1, 2).trainIn(2), 1);
            Check.same("the highest", rivals(8, 9).trainIn(2), 1);
            Check.same("a lower priority", rivals(9, 1).trainIn(2), 0);
            Check.same("equal priorities", rivals(5, 5).trainIn(2), 0);
            Check.same("and the other one waits", rivals(1, 9).waits(0), 1);
            Check.same("one after the other: the block is free by then", chasing(5, 6).blockOf(0), 1);
            Check.same("one after the other: the block is not free yet", chasing(6, 5).blockOf(0), 0);
            Check.same("nor for equal priorities", chasing(5, 5).blockOf(0), 0);
        });
    }

    private void staying() {
        holds("A derailed train does nothing.", () -> {
            SofaRailway x = Scene.derailed(1);
            x.reserve(0, 0);
            x.passTicks(50);
            Check.same("block", x.blockOf(0), 1);
            Check.same("remaining ticks", x.remainingTicks(0), 1);
            Check.same("goal", x.goal(0), 2);
            Check.same("reservation", x.reservedBy(0), 0);
            Check.same("arrivals", x.arrivals(), 0);
            x.addTrain(2, 5);
            x.rescue(0);
            x.passTicks(1);
            Check.same("no remaining ticks", x.remainingTicks(0), 0);
            SofaRailway blocked = Scene.derailedBehindATrain();
            blocked.passTicks(9);
            Check.same("waits", blocked.waits(0), 0);
        });
        holds("A train with remaining ticks greater than 0 stays, and its remaining ticks decrease by 1.", () -> {
            SofaRailway x = Sofa.line(1, 2, -2);
            x.addTrain(0, 5);
            x.addTrain(2, 5);
            x.setGoal(0, 2);
            x.passTicks(1);
            Check.same("2", x.remainingTicks(0), 2);
            x.passTicks(1);
            Check.same("1", x.remainingTicks(0), 1);
            x.passTicks(1);
            Check.same("0", x.remainingTicks(0), 0);
            Check.same("it stays without a wait", x.waits(0), 0);
            x.passTicks(1);
            Check.same("0 is not greater than 0, and so it waits", x.waits(0), 1);
            SofaRailway arrived = Sofa.line(1, -2);
            arrived.addTrain(0, 5);
            arrived.setGoal(0, 1);
            arrived.passTicks(2);
            Check.same("without a goal too", arrived.remainingTicks(0), 1);
        });
        holds("Any other train with a goal tries to move to its next block.", () -> {
            SofaRailway x = Sofa.line(9, 1, -1);
            x.addTrain(0, 5);
            x.setGoal(0, 2);
            x.passTicks(1);
            Check.same("with a goal it moves at once", x.blockOf(0), 1);
            x.undo();
            x.clearGoal(0);
            x.passTicks(1);
            Check.same("without a goal it stays", x.blockOf(0), 0);
            x.setGoal(0, 2);
            x.passTicks(1);
            Check.same("with a goal again it moves", x.blockOf(0), 1);
            x.clearGoal(0);
            x.passTicks(2);
            Check.same("without a goal it stays again", x.blockOf(0), 1);
            Check.same("and does not wait", x.waits(0), 0);
        });
        holds("If it has no next block, it stays.", () -> {
            SofaRailway x = Sofa.line(1, 1, -1);
            x.addTrain(0, 5);
            x.setGoal(0, 2);
            x.unlink(1, 2);
            x.passTicks(2);
            Check.same("block", x.blockOf(0), 0);
            Check.same("no wait", x.waits(0), 0);
            Check.same("goal", x.goal(0), 2);
            x.link(1, 2);
            Check.same("until there is one", x.passTicks(3), 1);
        });
    }

    private void waiting() {
        holds("If another train is in the next block, or another train has reserved it, the train stays and counts a "
                + "wait.", () -> {
            SofaRailway train = Sofa.line(1, 1, -1);
            train.addTrain(0, 9);
            train.addTrain(1, 1);
            train.setGoal(0, 2);
            train.passTicks(1);
            Check.same("a train, and it stays", train.blockOf(0), 0);
            Check.same("a train, a wait", train.waits(0), 1);
            Check.same("a train, no wait for it", train.waits(1), 0);
            train.passTicks(2);
            Check.same("a wait in each tick", train.waits(0), 3);
            SofaRailway reserved = Sofa.of(1, 1, -1, 1);
            Sofa.links(reserved, 0, 1, 1, 2, 1, 3);
            reserved.addTrain(0, 9);
            reserved.addTrain(3, 1);
            reserved.setGoal(0, 2);
            reserved.reserve(1, 1);
            reserved.passTicks(1);
            Check.same("a reservation, and it stays", reserved.blockOf(0), 0);
            Check.same("a reservation, a wait", reserved.waits(0), 1);
            reserved.cancelReservation(1);
            reserved.reserve(0, 1);
            reserved.passTicks(1);
            Check.same("its own reservation does not matter", reserved.blockOf(0), 1);
            Check.same("nor is it a wait", reserved.waits(0), 1);
            SofaRailway derailed = Scene.derailed(1);
            derailed.addTrain(0, 5);
            derailed.setGoal(1, 2);
            derailed.passTicks(1);
            Check.same("a derailed train", derailed.waits(1), 1);
        });
    }

    private void moving() {
        holds("Otherwise the train moves to this block, its reservation ends, whatever block it is for, and its "
                + "remaining ticks are the length of the block.", () -> {
            SofaRailway x = Sofa.of(1, 9, -1, 1, 1);
            Sofa.links(x, 0, 1, 1, 2, 0, 3, 4, 2);
            x.addTrain(0, 5);
            x.addTrain(4, 1);
            x.setGoal(0, 2);
            x.reserve(0, 3);
            x.reserve(1, 2);
            x.passTicks(1);
            Check.same("block", x.blockOf(0), 1);
            Check.same("remaining ticks, the longest", x.remainingTicks(0), 9);
            Check.missing("the reservation for another block", () -> x.reservedBy(3));
            Check.same("not that of another train", x.reservedBy(2), 1);
            x.cancelReservation(1);
            x.reserve(0, 2);
            x.passTicks(9);
            Check.same("staying does not end one", x.reservedBy(2), 0);
            x.passTicks(1);
            Check.same("remaining ticks, the shortest", x.remainingTicks(0), 1);
            Check.missing("the reservation for this block", () -> x.reservedBy(2));
        });
        holds("If a cat sits there, the train is derailed, and the cat leaves.", () -> {
            SofaRailway x = Sofa.line(1, 1, 1, -1);
            x.addTrain(0, 5);
            x.setGoal(0, 3);
            x.putCat(1);
            x.putCat(2);
            x.passTicks(1);
            Check.yes("derailed", x.isDerailed(0));
            Check.no("the cat has left", x.hasCat(1));
            Check.yes("the next cat has not", x.hasCat(2));
            Check.same("in the block all the same", x.blockOf(0) + x.remainingTicks(0), 2);
            SofaRailway none = Sofa.line(1, 1, -1);
            none.addTrain(0, 5);
            none.setGoal(0, 2);
            none.putCat(2);
            none.passTicks(1);
            Check.no("no cat there", none.isDerailed(0));
        });
    }

    private void arriving() {
        holds("If the block is the goal, the train has arrived there, even when it is derailed, and has no goal any "
                + "more.", () -> {
            SofaRailway x = Sofa.line(1, -1, -1);
            x.addTrain(0, 5);
            x.setGoal(0, 2);
            x.passTicks(1);
            Check.same("another cushion is not the goal", x.goal(0), 2);
            Check.same("no arrival yet", x.arrivals(), 0);
            x.putCat(2);
            Check.same("an arrival", x.passTicks(2), 1);
            Check.yes("derailed", x.isDerailed(0));
            Check.missing("no goal", () -> x.goal(0));
            Check.same("arrivals", x.arrivals(), 1);
            x.passTicks(9);
            Check.same("it arrives once", x.arrivals(), 1);
        });
        holds("At the end of the tick, the number of ticks increases by 1.", () -> {
            SofaRailway x = new SofaRailway();
            x.passTicks(1);
            Check.same("without trains", x.ticks(), 1);
            SofaRailway jam = Scene.jammedRing(6);
            jam.passTicks(50);
            Check.same("once for six trains", jam.ticks(), 50);
        });
    }

    private void blocking() {
        holds("A train is blocked by another train if it is not derailed, has a next block, and the other train is in "
                + "this next block; remaining ticks do not matter.", () -> {
            SofaRailway x = Sofa.line(-1, 9, 1, -1);
            x.addTrain(0, 5);
            x.addTrain(2, 1);
            Check.missing("no goal", () -> x.blockedBy(0));
            x.setGoal(0, 3);
            Check.missing("the other one is further away", () -> x.blockedBy(0));
            x.reserve(1, 1);
            Check.missing("a reservation only", () -> x.blockedBy(0));
            x.cancelReservation(1);
            x.passTicks(1);
            Check.same("with nine remaining ticks", x.blockedBy(0), 1);
            Check.missing("not the other way round", () -> x.blockedBy(1));
            x.passTicks(9);
            Check.same("with none", x.blockedBy(0), 1);
            x.unlink(2, 3);
            Check.missing("no next block", () -> x.blockedBy(0));
            Check.missing("derailed", () -> Scene.derailedBehindATrain().blockedBy(0));
            Check.same("by a derailed train", Scene.derailedBehindATrain().blockedBy(1), 0);
        });
        holds("Trains are deadlocked if the first one of them is blocked by the second one, the second one by the third "
                + "one, and so on, and the last one by the first one.", () -> {
            for (int count : new int[] {3, 5, 6}) {
                SofaRailway ring = Scene.jammedRing(count);
                Check.same(count + " trains", ring.deadlocked(), count);
                Check.same(count + " trains by the table", ring.deadlockedByTable(), count);
                ring.clearGoal(count - 1);
                Check.same("the last one is not blocked", ring.deadlocked(), 0);
                Check.same("the last one is not blocked, by the table", ring.deadlockedByTable(), 0);
            }
            Check.same("two and two", Scene.twoPairs().deadlocked(), 4);
            Check.same("two and two by the table", Scene.twoPairs().deadlockedByTable(), 4);
        });
    }
}
