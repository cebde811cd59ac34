/** Railways on which boundary cases can be tried. Each call makes the same railway anew. */
final class Scene {
    /** Indices that no block of the rich railway has; some would be an index of it if they were cut to five bits. */
    static final int[] NO_BLOCK = {-1, 7, 8, 13, 14, 31, 32, 33, 38, 64, -26, -32, Integer.MIN_VALUE,
        Integer.MAX_VALUE};
    /** The same for the trains of the rich railway. */
    static final int[] NO_TRAIN = {-1, 3, 5, 6, 31, 32, 34, 64, -30, -32, Integer.MIN_VALUE, Integer.MAX_VALUE};

    private Scene() {
    }

    /**
     * A railway of which each part is in use: seven blocks, of which 5 is linked with none, a cat on block 2, train 0
     * in block 0 with a goal and with block 1 reserved, train 1 derailed in block 3, train 2 in block 6 with neither.
     * There is an output, a kept error position, a kept failed command, a saved state, a text that is begun, and two
     * changes that can be undone.
     */
    static SofaRailway rich() {
        SofaRailway x = railway();
        keepBoth(x);
        finish(x);
        return x;
    }

    /** The rich railway without an error position and a failed command. */
    static SofaRailway richUnkept() {
        SofaRailway x = railway();
        finish(x);
        return x;
    }

    /** The rich railway without a change that can be undone. */
    static SofaRailway richUnchanged() {
        SofaRailway x = rich();
        x.save();
        x.restore();
        return x;
    }

    private static SofaRailway railway() {
        SofaRailway x = Sofa.of(-2, 3, 1, 4, -5, -1, 2);
        Sofa.links(x, 0, 1, 1, 2, 2, 3, 3, 4, 3, 6, 1, 6);
        x.addTrain(0, 5);
        x.addTrain(6, 7);
        x.setGoal(1, 4);
        x.putCat(3);
        x.passTicks(1);
        x.addTrain(6, 7);
        x.putCat(2);
        return x;
    }

    /** Keeps 5 as the error position and 1 as the failed command. */
    private static void keepBoth(SofaRailway x) {
        Sofa.attempt(x, "tick x");
        Sofa.attempt(x, "tick 1;tick 0");
    }

    private static void finish(SofaRailway x) {
        x.writeTrain(1);
        x.save();
        x.restore();
        x.setGoal(0, 4);
        x.reserve(0, 1);
        Sofa.feed(x, "tick ");
    }

    /** An output, both kept numbers, a saved state, one change that can be undone, and a text that is begun. */
    private static void use(SofaRailway x) {
        keepBoth(x);
        x.writeSignals();
        x.save();
        x.restore();
        x.passTicks(1);
        Sofa.feed(x, "tick ");
    }

    /** Fourteen blocks, in use. */
    static SofaRailway usedBlocks() {
        SofaRailway x = fullBlocks();
        use(x);
        return x;
    }

    /** Three blocks and no trains, in use. */
    static SofaRailway usedTrainless() {
        SofaRailway x = blocks(3);
        use(x);
        return x;
    }

    /** Six trains, in use. */
    static SofaRailway usedTrains() {
        SofaRailway x = fullTrains();
        use(x);
        return x;
    }

    /** No blocks, in use; a block is saved. */
    static SofaRailway usedNothing() {
        SofaRailway x = blocks(1);
        keepBoth(x);
        x.writeSignals();
        x.save();
        x.undo();
        x.passTicks(1);
        Sofa.feed(x, "tick ");
        return x;
    }

    /** A railway in use, of which nothing is saved. */
    static SofaRailway unsaved() {
        SofaRailway x = Sofa.line(1, -1);
        x.addTrain(0, 5);
        keepBoth(x);
        x.writeTrain(0);
        Sofa.feed(x, "tick ");
        return x;
    }

    /** The rich railway with sixty characters in the input buffer. */
    static SofaRailway richFed() {
        SofaRailway x = rich();
        Sofa.feed(x, "1;tick 1;tick 1;tick 01;tick 01;tick 01;tick 01;tick 50");
        return x;
    }

    static SofaRailway blocks(int count) {
        SofaRailway x = new SofaRailway();
        for (int block = 0; block < count; block++) {
            x.addBlock(1);
        }
        return x;
    }

    static SofaRailway fullBlocks() {
        return blocks(14);
    }

    static SofaRailway fullTrains() {
        SofaRailway x = blocks(7);
        for (int train = 0; train < 6; train++) {
            x.addTrain(train, 5);
        }
        return x;
    }

    /** Fourteen blocks of which each is linked with each. */
    static SofaRailway complete() {
        SofaRailway x = fullBlocks();
        for (int first = 0; first < 14; first++) {
            for (int second = 0; second < first; second++) {
                x.link(first, second);
            }
        }
        return x;
    }

    /** A line of 14 blocks; trains 0 and 1 are next to its ends and have reserved them. */
    static SofaRailway reservedEnds() {
        SofaRailway x = Sofa.line(1, 1, 1, 1, 1, 1, 1, 1, 1, 1, 1, 1, 1, 1);
        x.addTrain(1, 5);
        x.addTrain(12, 5);
        x.reserve(0, 0);
        x.reserve(1, 13);
        return x;
    }

    /** The rich railway after a block with index 7 and a train with index 3 in it have been there. */
    static SofaRailway undone() {
        SofaRailway x = rich();
        x.addBlock(1);
        x.addTrain(7, 1);
        x.undo();
        x.undo();
        return x;
    }

    /** The rich railway and a plain block 7 that is linked with none. */
    static SofaRailway plainPart() {
        SofaRailway x = rich();
        x.addBlock(1);
        return x;
    }

    /** A cushion ring of that many blocks of length 1, a train in each, and each train's goal two blocks ahead. */
    static SofaRailway jammedRing(int blocks) {
        SofaRailway x = new SofaRailway();
        for (int block = 0; block < blocks; block++) {
            x.addCushion(1);
            x.addTrain(block, 5);
        }
        for (int block = 0; block < blocks; block++) {
            x.link(block, (block + 1) % blocks);
        }
        for (int train = 0; train < blocks; train++) {
            x.setGoal(train, (train + 2) % blocks);
        }
        return x;
    }

    /** Train 0 is derailed in block 1 of a line of a block, a block with that length, and a cushion that is its goal. */
    static SofaRailway derailed(int length) {
        SofaRailway x = Sofa.line(1, length, -1);
        x.addTrain(0, 5);
        x.setGoal(0, 2);
        x.putCat(1);
        x.passTicks(1);
        return x;
    }

    /** Train 0 is derailed in block 1 of a line, train 1 stands before it in block 2; each one's goal is behind. */
    static SofaRailway derailedBehindATrain() {
        SofaRailway x = Sofa.line(-1, 1, 1, -1);
        x.addTrain(0, 5);
        x.addTrain(2, 5);
        x.putCat(1);
        x.setGoal(0, 3);
        x.passTicks(1);
        x.setGoal(1, 0);
        return x;
    }

    /** Two pairs of trains that face each other in two lines. */
    static SofaRailway twoPairs() {
        SofaRailway x = Sofa.of(-1, -1, -1, -1);
        Sofa.links(x, 0, 3, 1, 2);
        for (int block = 0; block < 4; block++) {
            x.addTrain(block, 5);
        }
        for (int train = 0; train < 4; train++) {
            x.setGoal(train, 3 - train);
        }
        return x;
    }
}
