/** Boundary cases of promises 17 to 22: routes and parts. */
final class RouteCases extends Cases {
    private static final int[] LONGEST = {9, 9, 9, 9, 9, 9, 9, 9, 9, 9, 9, 9, 9, 9};

    RouteCases() {
        distance();
        distanceByRounds();
        nextBlock();
        partCount();
        partCountByUnions();
        nearestCushion();
    }

    private interface Distance {
        int of(SofaRailway x, int from, int to);
    }

    /** From block 0 to block 1 at once is longer than over blocks 2 to 4; 5 is behind 1. */
    private static SofaRailway detour() {
        SofaRailway x = Sofa.of(1, 9, 1, 1, 9, 2);
        Sofa.links(x, 0, 4, 4, 1, 0, 2, 2, 3, 3, 1, 1, 5);
        return x;
    }

    private static void shortest(Distance distance) {
        Check.same("over more blocks", distance.of(detour(), 0, 1), 11);
        Check.same("and further", distance.of(detour(), 0, 5), 13);
        Check.same("back", distance.of(detour(), 5, 0), 12);
        SofaRailway x = detour();
        x.unlink(3, 1);
        Check.same("the longer one is left", distance.of(x, 0, 1), 18);
        x.link(0, 1);
        Check.same("the goal is linked", distance.of(x, 0, 1), 9);
    }

    private static void edges(Distance distance) {
        SofaRailway line = Sofa.line(LONGEST);
        Check.same("the longest", distance.of(line, 0, 13), 117);
        Check.same("the longest back", distance.of(line, 13, 0), 117);
        Check.same("the first from itself", distance.of(line, 0, 0), 0);
        Check.same("the last from itself", distance.of(line, 13, 13), 0);
        Check.same("an unlinked block from itself", distance.of(Scene.blocks(1), 0, 0), 0);
        Check.same("the shortest one", distance.of(Sofa.line(9, 1), 0, 1), 1);
        Check.same("without the first block", distance.of(Sofa.line(9, 1), 1, 0), 9);
        Check.same("all are linked", distance.of(Scene.complete(), 0, 13), 1);
    }

    private static void noRoute(Distance distance) {
        missing("to an unlinked block", Scene::rich, x -> distance.of(x, 0, 5));
        missing("from an unlinked block", Scene::rich, x -> distance.of(x, 5, 0));
        missing("no links", Scene::fullBlocks, x -> distance.of(x, 0, 13));
        SofaRailway x = Sofa.line(LONGEST);
        x.unlink(6, 7);
        Check.missing("a cut line", () -> distance.of(x, 0, 13));
        Check.missing("a cut line backwards", () -> distance.of(x, 7, 6));
        Check.same("up to the cut", distance.of(x, 0, 6), 54);
    }

    private void refusals(Distance distance) {
        holds("Throws `IndexOutOfBoundsException` if there is no such block, for either", () -> {
            noSuchBlock((x, block) -> distance.of(x, block, 0));
            noSuchBlock((x, block) -> distance.of(x, 0, block));
            noSuchBlock((x, block) -> distance.of(x, block, block));
        });
        holds("Throws `NoSuchElementException` if there is no route", () -> noRoute(distance));
        changesNothing(x -> distance.of(x, 7, 0), x -> distance.of(x, 0, -1), x -> distance.of(x, 0, 5));
        holds(FIRST_DECIDES, () -> {
            index("no route, since no last block", Scene::rich, x -> distance.of(x, 5, 7));
            index("no route, since no first block", Scene::rich, x -> distance.of(x, 7, 5));
        });
    }

    private void distance() {
        promise(17);
        holds("Returns the length of a shortest route, computed by always continuing from the nearest block.",
                () -> shortest(SofaRailway::distance));
        holds("Returns the length.", () -> edges(SofaRailway::distance));
        refusals(SofaRailway::distance);
    }

    private void distanceByRounds() {
        promise(18);
        holds("Returns the same as distance, but is computed by looking at all links again and again until no length "
                + "decreases any more.", () -> {
            shortest(SofaRailway::distanceByRounds);
            for (SofaRailway x : new SofaRailway[] {detour(), Scene.rich(), zigzag()}) {
                int last = Math.min(4, x.blockCount() - 1);
                for (int from = 0; from <= last; from++) {
                    for (int to = 0; to <= last; to++) {
                        Check.same(from + " to " + to, x.distanceByRounds(from, to), x.distance(from, to));
                    }
                }
            }
        });
        holds("Returns the length.", () -> {
            edges(SofaRailway::distanceByRounds);
            Check.same("against the order of the indices", zigzag().distanceByRounds(13, 0), 13);
        });
        refusals(SofaRailway::distanceByRounds);
    }

    /** A line through 14 blocks whose indices go up and down. */
    private static SofaRailway zigzag() {
        SofaRailway x = Scene.fullBlocks();
        int[] order = {13, 1, 12, 2, 11, 3, 10, 4, 9, 5, 8, 6, 7, 0};
        for (int i = 1; i < order.length; i++) {
            x.link(order[i - 1], order[i]);
        }
        return x;
    }

    private void nextBlock() {
        promise(19);
        holds("Returns the next block of a train.", () -> {
            SofaRailway x = Sofa.line(-1, 1, 1, 1, 1, 1, 1, 1, 1, 1, 1, 1, 1, -1);
            x.addTrain(0, 5);
            x.addTrain(13, 5);
            x.setGoal(0, 13);
            x.setGoal(1, 0);
            Check.same("up the line", x.nextBlock(0), 1);
            Check.same("down the line", x.nextBlock(1), 12);
            x.link(13, 0);
            Check.same("the goal at once", x.nextBlock(0), 13);
        });
        holds("Returns the index of the block.", () -> {
            Check.same("of a derailed train", Scene.rich().nextBlock(1), 4);
            SofaRailway x = Scene.rich();
            x.setGoal(2, 0);
            Check.same("through a reserved block", x.nextBlock(2), 1);
            x.passTicks(1);
            Check.same("through a cat's block", x.nextBlock(0), 2);
        });
        holds("Throws `IndexOutOfBoundsException` if there is no such train",
                () -> noSuchTrain((x, train) -> x.nextBlock(train)));
        holds("Throws `NoSuchElementException` if it has no next block", () -> {
            missing("no goal", Scene::rich, x -> x.nextBlock(2));
            SofaRailway x = Sofa.line(1, -1);
            x.addTrain(0, 5);
            x.setGoal(0, 1);
            x.unlink(0, 1);
            Check.missing("no route", () -> x.nextBlock(0));
            x.undo();
            x.passTicks(1);
            Check.missing("arrived", () -> x.nextBlock(0));
        });
        changesNothing(x -> x.nextBlock(3), x -> x.nextBlock(2));
        trainIndexDecides((x, train) -> x.nextBlock(train));
    }

    private interface Parts {
        int of(SofaRailway x);
    }

    private static void parts(Parts parts) {
        Check.same("of nothing", parts.of(new SofaRailway()), 0);
        Check.same("of one block", parts.of(Scene.blocks(1)), 1);
        Check.same("without links", parts.of(Scene.fullBlocks()), 14);
        Check.same("all linked", parts.of(Scene.complete()), 1);
        Check.same("one line", parts.of(Sofa.line(LONGEST)), 1);
        Check.same("one line up and down", parts.of(zigzag()), 1);
    }

    private static void cutParts(Parts parts) {
        SofaRailway x = zigzag();
        x.unlink(13, 1);
        Check.same("the first is cut off", parts.of(x), 2);
        x.unlink(0, 7);
        Check.same("the last too", parts.of(x), 3);
        x.unlink(10, 4);
        Check.same("cut in the middle", parts.of(x), 4);
        x.link(13, 0);
        Check.same("the ends are one part", parts.of(x), 3);
        SofaRailway ring = Sofa.line(1, 1, 1);
        ring.link(2, 0);
        Check.same("a ring", parts.of(ring), 1);
        ring.unlink(0, 1);
        Check.same("a cut ring", parts.of(ring), 1);
        SofaRailway pairs = Sofa.of(1, 1, 1, 1);
        Sofa.links(pairs, 3, 0, 2, 1);
        Check.same("crossed pairs", parts.of(pairs), 2);
        pairs.link(2, 3);
        Check.same("joined pairs", parts.of(pairs), 1);
        Check.same("joined pairs, asked again", parts.of(pairs), 1);
        SofaRailway crossed = Sofa.of(1, 1, 1, 1, 1);
        Sofa.links(crossed, 0, 3, 3, 1, 1, 4, 4, 0);
        Check.same("a ring over crossed indices, and one beside it", parts.of(crossed), 2);
        Check.same("asked again", parts.of(crossed), 2);
        crossed.link(4, 3);
        Check.same("a link more inside the ring", parts.of(crossed), 2);
    }

    private void partCount() {
        promise(20);
        holds("Returns the number of parts of the railway: blocks belong to the same part if there is a route between "
                + "them.", () -> cutParts(SofaRailway::partCount));
        holds("It is computed by recursive walks.",
                () -> Check.same("the deepest walk", zigzag().partCount(), 1));
        holds("Returns the number of parts.", () -> parts(SofaRailway::partCount));
    }

    private void partCountByUnions() {
        promise(21);
        holds("Returns the same as partCount, but is computed by uniting sets of blocks link by link.", () -> {
            cutParts(SofaRailway::partCountByUnions);
            SofaRailway x = Scene.blocks(14);
            for (int block = 13; block > 0; block--) {
                x.link(block, block * 5 % 14 == block ? 0 : block * 5 % 14);
                Check.same("after link " + block, x.partCountByUnions(), x.partCount());
            }
        });
        holds("Returns the number of parts.", () -> parts(SofaRailway::partCountByUnions));
    }

    private void nearestCushion() {
        promise(22);
        holds("Returns the cushion that is nearest to a block by distance; of several, the one with the smallest "
                + "index.", () -> {
            SofaRailway equal = Sofa.of(-2, 1, 1, -2, -2);
            Sofa.links(equal, 1, 4, 1, 3, 1, 2);
            Check.same("three as near but one not in reach", equal.nearestCushion(1), 3);
            equal.link(0, 1);
            Check.same("the first of three", equal.nearestCushion(1), 0);
            SofaRailway near = Sofa.line(-9, 1, 1, 1, -5);
            Check.same("more blocks but shorter, though not on the way back", near.nearestCushion(1), 4);
        });
        holds("The block itself can be the nearest one.", () -> {
            SofaRailway x = Sofa.line(-1, -9, -1);
            Check.same("between nearer ones", x.nearestCushion(1), 1);
            Check.same("the last", x.nearestCushion(2), 2);
            Check.same("an unlinked one", Scene.rich().nearestCushion(5), 5);
        });
        holds("Returns the index of the cushion.", () -> {
            SofaRailway line = Sofa.line(-9, 9, 9, 9, 9, 9, 9, 9, 9, 9, 9, 9, 9, 9);
            Check.same("117 away", line.nearestCushion(13), 0);
            SofaRailway back = Sofa.line(9, 9, 9, 9, 9, 9, 9, 9, 9, 9, 9, 9, 9, -9);
            Check.same("117 away at the other end", back.nearestCushion(0), 13);
        });
        holds("Throws `IndexOutOfBoundsException` if there is no such block",
                () -> noSuchBlock((x, block) -> x.nearestCushion(block)));
        holds("Throws `NoSuchElementException` if no cushion can be reached", () -> {
            missing("no cushions", Scene::complete, x -> x.nearestCushion(0));
            missing("none in this part", Scene::plainPart, x -> x.nearestCushion(7));
            SofaRailway x = Sofa.line(1, -1);
            x.unlink(0, 1);
            Check.missing("cut off", () -> x.nearestCushion(0));
        });
        changesNothing(x -> x.nearestCushion(7), x -> x.nearestCushion(-1));
        changesNothing(Scene::usedBlocks, x -> x.nearestCushion(0));
        blockIndexDecides((x, block) -> x.nearestCushion(block));
    }
}
