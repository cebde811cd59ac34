/** Boundary cases of promises 1 to 16: a new object, and the blocks. */
final class BlockCases extends Cases {
    BlockCases() {
        newObject();
        addBlock();
        addCushion();
        link();
        unlink();
        putCat();
        removeCat();
        blockCount();
        length();
        isCushion();
        hasCat();
        areLinked();
        degree();
        trainIn();
        reservedBy();
        signal();
    }

    private void newObject() {
        promise(1);
        holds("Creates a railway without blocks and trains.", () -> {
            SofaRailway x = new SofaRailway();
            Check.same("blocks", x.blockCount(), 0);
            Check.same("trains", x.trainCount(), 0);
            Check.same("everything", Sofa.everything(x), "kept NoSuchElementException NoSuchElementException\n"
                    + "  undo 0\n  input 1 IllegalArgumentException 0 0\n  output .\n  railway 0/0\n"
                    + "  restored IllegalStateException 0/0");
            SofaRailway other = Scene.rich();
            Check.same("blocks of a new object beside a used one", new SofaRailway().blockCount(), 0);
            Check.same("blocks of the used one", other.blockCount(), 7);
        });
    }

    private void addBlock() {
        promise(2);
        holds("Adds a plain block.", () -> {
            SofaRailway x = new SofaRailway();
            x.addCushion(9);
            x.addCushion(8);
            x.link(0, 1);
            x.putCat(0);
            for (int change = 0; change < 4; change++) {
                x.undo();
            }
            for (int block = 0; block < 14; block++) {
                x.addBlock(3);
                Check.no("cushion " + block, x.isCushion(block));
                Check.same("length " + block, x.length(block), 3);
                Check.same("degree " + block, x.degree(block), 0);
                Check.same("signal " + block, x.signal(block), 'f');
            }
        });
        addingEdges(SofaRailway::addBlock);
    }

    private void addCushion() {
        promise(3);
        holds("Adds a cushion.", () -> {
            SofaRailway x = Sofa.of(8, 8);
            x.undo();
            x.undo();
            for (int block = 0; block < 14; block++) {
                x.addCushion(4);
                Check.yes("cushion " + block, x.isCushion(block));
                Check.same("length " + block, x.length(block), 4);
                Check.same("degree " + block, x.degree(block), 0);
                Check.same("signal " + block, x.signal(block), 'f');
            }
        });
        addingEdges(SofaRailway::addCushion);
    }

    private interface Adding {
        int to(SofaRailway x, int length);
    }

    private void addingEdges(Adding adding) {
        holds("Returns the index of the block.", () -> {
            SofaRailway x = new SofaRailway();
            for (int block = 0; block < 14; block++) {
                Check.same("index", adding.to(x, 1), block);
            }
            x.undo();
            Check.same("the last index again", adding.to(x, 1), 13);
            Check.same("behind plain blocks", adding.to(Sofa.of(1, 1), 1), 2);
            Check.same("behind cushions", adding.to(Sofa.of(-1, -1), 1), 2);
        });
        holds("Throws `IllegalArgumentException` if length is not from 1 to 9", () -> {
            for (int length : new int[] {0, 10, -1, 11, 257, -9, Integer.MIN_VALUE, Integer.MAX_VALUE}) {
                argument("length " + length, SofaRailway::new, x -> adding.to(x, length));
            }
            SofaRailway x = new SofaRailway();
            Check.same("length 1", adding.to(x, 1), 0);
            Check.same("length 9", adding.to(x, 9), 1);
        });
        holds("Throws `IllegalStateException` if there are 14 blocks", () -> {
            state("block 14", Scene::fullBlocks, x -> adding.to(x, 1));
            Check.same("block 13", adding.to(Scene.blocks(13), 1), 13);
            SofaRailway cushions = Sofa.of(-1, -1, -1, -1, -1, -1, -1, -1, -1, -1, -1, -1, -1, -1);
            Check.state("block 14 behind cushions", () -> adding.to(cushions, 1));
            cushions.undo();
            Check.same("after undo", adding.to(cushions, 1), 13);
        });
        changesNothing(x -> adding.to(x, 0), x -> adding.to(x, 10));
        changesNothing(Scene::usedBlocks, x -> adding.to(x, 1), x -> adding.to(x, 0));
        holds(FIRST_DECIDES, () -> {
            argument("length 0 behind 14 blocks", Scene::fullBlocks, x -> adding.to(x, 0));
            argument("length 10 behind 14 blocks", Scene::fullBlocks, x -> adding.to(x, 10));
        });
    }

    private void link() {
        promise(4);
        holds("Links two blocks.", () -> {
            SofaRailway x = Scene.fullBlocks();
            x.link(13, 0);
            x.link(12, 13);
            Check.yes("the last with the first", x.areLinked(13, 0) && x.areLinked(0, 13));
            Check.yes("the last two", x.areLinked(13, 12) && x.areLinked(12, 13));
            Check.no("no others", x.areLinked(0, 12) || x.areLinked(12, 0));
            x.unlink(0, 13);
            x.link(0, 13);
            Check.yes("once more", x.areLinked(13, 0));
        });
        holds("Returns the number of links afterwards.", () -> {
            SofaRailway x = Scene.fullBlocks();
            int count = 0;
            for (int first = 0; first < 14; first++) {
                for (int second = first + 1; second < 14; second++) {
                    count++;
                    Check.same("links", x.link(first, second), count);
                }
            }
            Check.same("each with each", count, 91);
            x.unlink(0, 1);
            Check.same("as many again", x.link(1, 0), 91);
        });
        holds("Throws `IndexOutOfBoundsException` if there is no such block, for either", () -> {
            noSuchBlock((x, block) -> x.link(block, 0));
            noSuchBlock((x, block) -> x.link(0, block));
        });
        holds("Throws `IllegalArgumentException` if both are the same block", () -> {
            argument("the first", Scene::fullBlocks, x -> x.link(0, 0));
            argument("the last", Scene::fullBlocks, x -> x.link(13, 13));
            argument("a linked one", Scene::rich, x -> x.link(3, 3));
            argument("the only one", () -> Scene.blocks(1), x -> x.link(0, 0));
        });
        holds("Throws `IllegalStateException` if they are linked", () -> {
            state("as they were", Scene::rich, x -> x.link(0, 1));
            state("the other way", Scene::rich, x -> x.link(1, 0));
            state("all are", Scene::complete, x -> x.link(13, 0));
            Check.same("linked over another one only", Scene.rich().link(0, 2), 7);
        });
        changesNothing(x -> x.link(7, 0), x -> x.link(0, -1), x -> x.link(5, 5), x -> x.link(1, 0));
        holds(FIRST_DECIDES, () -> {
            index("the same, but none", Scene::rich, x -> x.link(7, 7));
            index("the same below 0", Scene::rich, x -> x.link(-1, -1));
        });
    }

    private void unlink() {
        promise(5);
        holds("Removes the link of two blocks.", () -> {
            SofaRailway x = Scene.fullBlocks();
            Sofa.links(x, 0, 13, 13, 12, 0, 12);
            x.unlink(13, 0);
            Check.no("the link is gone", x.areLinked(13, 0) || x.areLinked(0, 13));
            Check.yes("the others stay", x.areLinked(13, 12) && x.areLinked(12, 0));
            x.unlink(12, 13);
            Check.same("none is left", x.degree(13), 0);
        });
        holds("Reservations stay.", () -> {
            SofaRailway x = Scene.rich();
            x.unlink(1, 0);
            Check.same("the reservation", x.reservedBy(1), 0);
            Check.same("the signal", x.signal(1), 'r');
            Check.state("the train has it", () -> {
                x.link(0, 4);
                x.reserve(0, 4);
            });
            Check.unsupported("nobody else can have it", () -> x.reserve(2, 1));
            Check.same("it can end", x.cancelReservation(0), 1);
        });
        holds("Returns the number of links afterwards.", () -> {
            SofaRailway x = Scene.complete();
            int count = 91;
            for (int first = 0; first < 14; first++) {
                for (int second = first + 1; second < 14; second++) {
                    count--;
                    Check.same("links", x.unlink(second, first), count);
                }
            }
            Check.same("none is left", count, 0);
        });
        holds("Throws `IndexOutOfBoundsException` if there is no such block, for either", () -> {
            noSuchBlock((x, block) -> x.unlink(block, 0));
            noSuchBlock((x, block) -> x.unlink(0, block));
        });
        holds("Throws `NoSuchElementException` if they are not linked", () -> {
            missing("linked over another one", Scene::rich, x -> x.unlink(0, 2));
            missing("the same block", Scene::rich, x -> x.unlink(3, 3));
            missing("no links at all", Scene::fullBlocks, x -> x.unlink(0, 13));
            SofaRailway x = Sofa.line(1, 1);
            x.unlink(0, 1);
            Check.missing("no more", () -> x.unlink(0, 1));
            Check.missing("nor the other way", () -> x.unlink(1, 0));
        });
        changesNothing(x -> x.unlink(7, 0), x -> x.unlink(0, -1), x -> x.unlink(0, 2), x -> x.unlink(0, 0));
        holds(FIRST_DECIDES, () -> {
            index("not linked, since none", Scene::rich, x -> x.unlink(7, 7));
            index("the second is none", Scene::fullBlocks, x -> x.unlink(13, 14));
        });
    }

    private void putCat() {
        promise(6);
        holds("Puts a cat on a block in which there is no train.", () -> {
            SofaRailway x = Scene.rich();
            x.putCat(1);
            Check.yes("on a reserved block", x.hasCat(1));
            x.putCat(4);
            Check.yes("on a cushion that is a goal", x.hasCat(4));
            Check.no("not on another one", x.hasCat(5));
            SofaRailway left = Sofa.line(1, 1, -1);
            left.addTrain(0, 5);
            left.setGoal(0, 2);
            left.passTicks(1);
            left.putCat(0);
            Check.yes("on a block that the train has left", left.hasCat(0));
        });
        holds("Returns the number of cats afterwards.", () -> {
            SofaRailway x = Scene.fullBlocks();
            for (int block = 13; block >= 0; block--) {
                Check.same("cats", x.putCat(block), 14 - block);
            }
            x.removeCat(7);
            Check.same("as many again", x.putCat(7), 14);
        });
        holds("Throws `IndexOutOfBoundsException` if there is no such block",
                () -> noSuchBlock((x, block) -> x.putCat(block)));
        holds("Throws `IllegalStateException` if there is a cat", () -> {
            state("a cat", Scene::rich, x -> x.putCat(2));
            SofaRailway x = Scene.fullBlocks();
            x.putCat(0);
            x.putCat(13);
            Check.state("on the first block", () -> x.putCat(0));
            Check.state("on the last block", () -> x.putCat(13));
        });
        holds("Throws `UnsupportedOperationException` if a train is there", () -> {
            unsupported("a train", Scene::rich, x -> x.putCat(0));
            unsupported("a derailed train", Scene::rich, x -> x.putCat(3));
            unsupported("the last train", Scene::fullTrains, x -> x.putCat(5));
            Check.same("beside the last train", Scene.fullTrains().putCat(6), 1);
        });
        changesNothing(x -> x.putCat(7), x -> x.putCat(2), x -> x.putCat(0), x -> x.putCat(3));
        holds(FIRST_DECIDES, () -> {
            index("32 behind a cat", Scene::rich, x -> x.putCat(34));
            index("behind a last train", () -> {
                SofaRailway x = Scene.blocks(6);
                x.addTrain(5, 5);
                return x;
            }, x -> x.putCat(6));
        });
    }

    private void removeCat() {
        promise(7);
        holds("Takes the cat from a block.", () -> {
            SofaRailway x = Scene.fullBlocks();
            x.putCat(0);
            x.putCat(13);
            x.removeCat(0);
            Check.no("the cat is gone", x.hasCat(0));
            Check.yes("the other cat stays", x.hasCat(13));
            Check.same("a train has room", x.addTrain(0, 1), 0);
        });
        holds("Returns the number of cats afterwards.", () -> {
            SofaRailway x = Scene.fullBlocks();
            for (int block = 0; block < 14; block++) {
                x.putCat(block);
            }
            for (int block = 0; block < 14; block++) {
                Check.same("cats", x.removeCat(block), 13 - block);
            }
        });
        holds("Throws `IndexOutOfBoundsException` if there is no such block",
                () -> noSuchBlock((x, block) -> x.removeCat(block)));
        holds("Throws `NoSuchElementException` if there is no cat", () -> {
            missing("no cat", Scene::rich, x -> x.removeCat(1));
            missing("a train", Scene::rich, x -> x.removeCat(0));
            missing("a cat that left", Scene::rich, x -> x.removeCat(3));
            SofaRailway x = Scene.blocks(1);
            x.putCat(0);
            x.removeCat(0);
            Check.missing("a cat that was taken", () -> x.removeCat(0));
        });
        changesNothing(x -> x.removeCat(-1), x -> x.removeCat(0), x -> x.removeCat(6));
        blockIndexDecides((x, block) -> x.removeCat(block));
    }

    private void blockCount() {
        promise(8);
        holds("Returns the number of blocks.", () -> {
            Check.same("none", new SofaRailway().blockCount(), 0);
            SofaRailway x = new SofaRailway();
            for (int count = 1; count <= 14; count++) {
                x.addBlock(1);
                Check.same("blocks", x.blockCount(), count);
            }
            Check.state("a refused one", () -> x.addBlock(1));
            Check.same("still 14", x.blockCount(), 14);
            x.undo();
            Check.same("one is undone", x.blockCount(), 13);
            Check.same("cushions too", Sofa.of(-1, 1, -1).blockCount(), 3);
        });
    }

    private void length() {
        promise(9);
        holds("Returns the length of a block.", () -> {
            SofaRailway x = Sofa.of(1, 2, 3, 4, 5, 6, 7, 8, 9, -9, -1, -5, -2, 9);
            int[] due = {1, 2, 3, 4, 5, 6, 7, 8, 9, 9, 1, 5, 2, 9};
            for (int block = 0; block < 14; block++) {
                Check.same("length " + block, x.length(block), due[block]);
            }
        });
        holds("Returns the length.", () -> {
            SofaRailway x = Sofa.of(9);
            x.undo();
            x.addBlock(1);
            Check.same("of the block that is there now", x.length(0), 1);
        });
        holds("Throws `IndexOutOfBoundsException` if there is no such block",
                () -> noSuchBlock((x, block) -> x.length(block)));
        changesNothing(x -> x.length(7), x -> x.length(-1));
    }

    private void isCushion() {
        promise(10);
        holds("Returns whether a block is a cushion.", () -> {
            SofaRailway x = Sofa.of(-1, 1, 1, 1, 1, 1, 1, 1, 1, 1, 1, 1, 1, -1);
            Check.yes("the first", x.isCushion(0));
            Check.no("the second", x.isCushion(1));
            Check.no("the last but one", x.isCushion(12));
            Check.yes("the last", x.isCushion(13));
        });
        holds("Returns true if it is a cushion.", () -> {
            SofaRailway x = Sofa.of(-1, 1);
            x.undo();
            x.undo();
            x.addBlock(1);
            x.addCushion(1);
            Check.no("a block in place of a cushion", x.isCushion(0));
            Check.yes("a cushion in place of a block", x.isCushion(1));
        });
        holds("Throws `IndexOutOfBoundsException` if there is no such block",
                () -> noSuchBlock((x, block) -> x.isCushion(block)));
        changesNothing(x -> x.isCushion(7), x -> x.isCushion(-1));
    }

    private void hasCat() {
        promise(11);
        holds("Returns whether a cat sits on a block.", () -> {
            SofaRailway x = Scene.fullBlocks();
            x.putCat(0);
            x.putCat(13);
            Check.yes("the first", x.hasCat(0));
            Check.no("the second", x.hasCat(1));
            Check.no("the last but one", x.hasCat(12));
            Check.yes("the last", x.hasCat(13));
        });
        holds("Returns true if a cat sits there.", () -> {
            Check.no("a cat that left", Scene.rich().hasCat(3));
            SofaRailway x = Scene.rich();
            x.removeCat(2);
            Check.no("a cat that was taken", x.hasCat(2));
            x.undo();
            Check.yes("undone", x.hasCat(2));
        });
        holds("Throws `IndexOutOfBoundsException` if there is no such block",
                () -> noSuchBlock((x, block) -> x.hasCat(block)));
        changesNothing(x -> x.hasCat(7), x -> x.hasCat(-1));
    }

    private void areLinked() {
        promise(12);
        holds("Returns whether two blocks are linked.", () -> {
            SofaRailway x = Scene.fullBlocks();
            x.link(0, 13);
            Check.yes("the first with the last", x.areLinked(0, 13));
            Check.yes("the last with the first", x.areLinked(13, 0));
            Check.no("the first with the second", x.areLinked(0, 1));
            x.unlink(0, 13);
            Check.no("no more", x.areLinked(0, 13));
        });
        holds("Returns true if they are linked, false if both are the same block.", () -> {
            SofaRailway x = Scene.complete();
            for (int block = 0; block < 14; block++) {
                Check.no("the same, " + block, x.areLinked(block, block));
                Check.yes("the next, " + block, x.areLinked(block, (block + 1) % 14));
            }
            Check.no("linked over another one", Scene.rich().areLinked(0, 2));
        });
        holds("Throws `IndexOutOfBoundsException` if there is no such block, for either", () -> {
            noSuchBlock((x, block) -> x.areLinked(block, 0));
            noSuchBlock((x, block) -> x.areLinked(0, block));
            noSuchBlock((x, block) -> x.areLinked(block, block));
        });
        changesNothing(x -> x.areLinked(7, 0), x -> x.areLinked(0, -1));
    }

    private void degree() {
        promise(13);
        holds("Returns the number of blocks that are linked with a block.", () -> {
            SofaRailway x = Scene.fullBlocks();
            for (int other = 1; other < 14; other++) {
                x.link(other, 0);
                Check.same("of the first", x.degree(0), other);
                Check.same("of the other", x.degree(other), 1);
            }
            x.unlink(0, 13);
            Check.same("none is left", x.degree(13), 0);
        });
        holds("Returns the number of blocks.", () -> {
            Check.same("none", Scene.blocks(1).degree(0), 0);
            Check.same("all others", Scene.complete().degree(13), 13);
        });
        holds("Throws `IndexOutOfBoundsException` if there is no such block",
                () -> noSuchBlock((x, block) -> x.degree(block)));
        changesNothing(x -> x.degree(7), x -> x.degree(-1));
    }

    private void trainIn() {
        promise(14);
        holds("Returns the train in a block.", () -> {
            SofaRailway x = Scene.fullBlocks();
            x.addTrain(13, 5);
            x.addTrain(0, 5);
            Check.same("in the last block", x.trainIn(13), 0);
            Check.same("in the first block", x.trainIn(0), 1);
        });
        holds("Returns the index of the train.", () -> {
            SofaRailway x = Scene.fullTrains();
            Check.same("the first train", x.trainIn(0), 0);
            Check.same("the last train", x.trainIn(5), 5);
            Check.same("a derailed train", Scene.rich().trainIn(3), 1);
        });
        holds("Throws `IndexOutOfBoundsException` if there is no such block",
                () -> noSuchBlock((x, block) -> x.trainIn(block)));
        holds("Throws `NoSuchElementException` if no train is there", () -> {
            missing("a free block", Scene::rich, x -> x.trainIn(5));
            missing("a reserved block", Scene::rich, x -> x.trainIn(1));
            missing("a goal", Scene::rich, x -> x.trainIn(4));
            missing("the block that a train has left", () -> Scene.derailed(1), x -> x.trainIn(0));
            missing("no trains at all", Scene::fullBlocks, x -> x.trainIn(0));
            missing("beside six trains", Scene::fullTrains, x -> x.trainIn(6));
        });
        changesNothing(x -> x.trainIn(7), x -> x.trainIn(1));
        blockIndexDecides((x, block) -> x.trainIn(block));
    }

    private void reservedBy() {
        promise(15);
        holds("Returns the train that has reserved a block.", () -> {
            SofaRailway x = Scene.reservedEnds();
            Check.same("the first block", x.reservedBy(0), 0);
            Check.same("the last block", x.reservedBy(13), 1);
        });
        holds("Returns the index of the train.", () -> {
            SofaRailway x = Scene.fullTrains();
            x.link(6, 5);
            x.reserve(5, 6);
            Check.same("the last train", x.reservedBy(6), 5);
            x.cancelReservation(5);
            x.link(6, 0);
            x.reserve(0, 6);
            Check.same("the first train", x.reservedBy(6), 0);
        });
        holds("Throws `IndexOutOfBoundsException` if there is no such block",
                () -> noSuchBlock((x, block) -> x.reservedBy(block)));
        holds("Throws `NoSuchElementException` if it is not reserved", () -> {
            missing("a free block", Scene::rich, x -> x.reservedBy(5));
            missing("the block of the train that has one", Scene::rich, x -> x.reservedBy(0));
            missing("a goal", Scene::rich, x -> x.reservedBy(4));
            missing("no trains at all", Scene::fullBlocks, x -> x.reservedBy(0));
            SofaRailway x = Scene.rich();
            x.passTicks(1);
            Check.missing("the train is in it", () -> x.reservedBy(1));
        });
        changesNothing(x -> x.reservedBy(7), x -> x.reservedBy(0));
        blockIndexDecides((x, block) -> x.reservedBy(block));
    }

    private void signal() {
        promise(16);
        holds("Returns the signal of a block.", () -> {
            SofaRailway x = Scene.fullBlocks();
            x.putCat(0);
            x.addTrain(13, 5);
            Check.same("the first", x.signal(0), 'c');
            Check.same("the second", x.signal(1), 'f');
            Check.same("the last", x.signal(13), 'o');
        });
        holds("Returns 'c' if a cat sits on it; otherwise 'o' if a train is there; otherwise 'r' if it is reserved; "
                + "otherwise 'f'.", () -> {
            SofaRailway x = Scene.rich();
            Check.same("a train with a reservation", x.signal(0), 'o');
            Check.same("a derailed train, the cat has left", x.signal(3), 'o');
            Check.same("a cat", x.signal(2), 'c');
            Check.same("reserved", x.signal(1), 'r');
            Check.same("a goal", x.signal(4), 'f');
            x.putCat(1);
            Check.same("a cat on a reserved block", x.signal(1), 'c');
            x.removeCat(1);
            x.cancelReservation(0);
            Check.same("free again", x.signal(1), 'f');
        });
        holds("Throws `IndexOutOfBoundsException` if there is no such block",
                () -> noSuchBlock((x, block) -> x.signal(block)));
        changesNothing(x -> x.signal(7), x -> x.signal(-1));
    }
}
