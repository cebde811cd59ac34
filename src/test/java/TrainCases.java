/** Boundary cases of promises 23 to 39: trains. */
final class TrainCases extends Cases {
    TrainCases() {
        addTrain();
        addTrainRefused();
        setGoal();
        setGoalRefused();
        clearGoal();
        reserve();
        reserveRefused();
        cancelReservation();
        rescue();
        trainCount();
        blockOf();
        priority();
        remainingTicks();
        goal();
        isDerailed();
        waits();
        trainByPriority();
        blockedBy();
        deadlocked();
        deadlockedByTable();
    }

    private void addTrain() {
        promise(23);
        holds("Adds a train without a goal.", () -> {
            SofaRailway x = Scene.derailed(9);
            x.addTrain(0, 5);
            Check.missing("no goal", () -> x.goal(1));
            Check.missing("no reservation", () -> x.cancelReservation(1));
            Check.same("no waits", x.waits(1), 0);
            Check.same("no remaining ticks", x.remainingTicks(1), 0);
            Check.no("not derailed", x.isDerailed(1));
            SofaRailway again = Scene.derailed(9);
            for (int change = 0; change < 4; change++) {
                again.undo();
            }
            Check.same("in place of an undone train", again.addTrain(0, 5), 0);
            Check.same("nothing is left of it", Sofa.picture(again).split("T")[1], "0p5+0>nonew0 0/0");
        });
        holds("Returns the index of the train.", () -> {
            SofaRailway x = Scene.fullBlocks();
            for (int train = 0; train < 6; train++) {
                Check.same("index", x.addTrain(13 - train, 9 - train), train);
            }
            x.undo();
            Check.same("the last index again", x.addTrain(0, 1), 5);
        });
    }

    private void addTrainRefused() {
        holds("Throws `IndexOutOfBoundsException` if there is no such block",
                () -> noSuchBlock((x, block) -> x.addTrain(block, 5)));
        holds("Throws `IllegalArgumentException` if priority is not from 1 to 9", () -> {
            for (int priority : new int[] {0, 10, -1, 11, 257, -9, Integer.MIN_VALUE, Integer.MAX_VALUE}) {
                argument("priority " + priority, Scene::rich, x -> x.addTrain(4, priority));
            }
            Check.same("priority 1", Scene.rich().addTrain(4, 1), 3);
            Check.same("priority 9", Scene.rich().addTrain(4, 9), 3);
        });
        holds("Throws `IllegalStateException` if there are 6 trains", () -> {
            state("train 6", Scene::fullTrains, x -> x.addTrain(6, 5));
            SofaRailway x = Scene.fullTrains();
            x.undo();
            Check.same("train 5", x.addTrain(6, 5), 5);
            Check.state("train 6 again", () -> x.addTrain(5, 5));
        });
        holds("Throws `UnsupportedOperationException` if a train or a cat is in the block, or it is reserved", () -> {
            unsupported("a train", Scene::rich, x -> x.addTrain(0, 5));
            unsupported("a derailed train", Scene::rich, x -> x.addTrain(3, 5));
            unsupported("the last train", Scene::rich, x -> x.addTrain(6, 5));
            unsupported("a cat", Scene::rich, x -> x.addTrain(2, 5));
            unsupported("reserved", Scene::rich, x -> x.addTrain(1, 5));
            Check.same("a goal only", Scene.rich().addTrain(4, 5), 3);
            SofaRailway x = Scene.rich();
            x.removeCat(2);
            x.cancelReservation(0);
            Check.same("the cat is gone", x.addTrain(2, 5), 3);
            Check.same("the reservation is gone", x.addTrain(1, 5), 4);
        });
        changesNothing(x -> x.addTrain(7, 5), x -> x.addTrain(4, 0), x -> x.addTrain(4, 10), x -> x.addTrain(0, 5),
                x -> x.addTrain(2, 5), x -> x.addTrain(1, 5));
        changesNothing(Scene::usedTrains, x -> x.addTrain(6, 5));
        holds(FIRST_DECIDES, () -> {
            index("no block and priority 0", Scene::rich, x -> x.addTrain(7, 0));
            index("no block for a seventh train", Scene::fullTrains, x -> x.addTrain(7, 5));
            argument("priority 0 for a seventh train", Scene::fullTrains, x -> x.addTrain(6, 0));
            argument("priority 10 beside a train", Scene::rich, x -> x.addTrain(0, 10));
            argument("priority 0 beside a cat", Scene::rich, x -> x.addTrain(2, 0));
            argument("priority 0 in a reserved block", Scene::rich, x -> x.addTrain(1, 0));
            state("a seventh train beside a train", Scene::fullTrains, x -> x.addTrain(0, 5));
            state("a seventh train beside a cat", () -> catInTheSeventh(), x -> x.addTrain(6, 5));
            state("a seventh train in a reserved block", () -> seventhReserved(), x -> x.addTrain(6, 5));
        });
    }

    private static SofaRailway catInTheSeventh() {
        SofaRailway x = Scene.fullTrains();
        x.putCat(6);
        return x;
    }

    private static SofaRailway seventhReserved() {
        SofaRailway x = Scene.fullTrains();
        x.link(5, 6);
        x.reserve(5, 6);
        return x;
    }

    private void setGoal() {
        promise(24);
        holds("Sets the goal of a train.", () -> {
            SofaRailway x = Sofa.line(-1, 1, 1, 1, 1, 1, 1, 1, 1, 1, 1, 1, 1, -1);
            x.addTrain(13, 5);
            x.addTrain(1, 5);
            x.setGoal(0, 0);
            Check.same("the first block", x.goal(0), 0);
            Check.missing("of this train only", () -> x.goal(1));
            x.setGoal(1, 13);
            Check.same("the last block, a train is there", x.goal(1), 13);
            x.setGoal(1, 0);
            Check.same("in place of another goal", x.goal(1), 0);
            x.setGoal(1, 0);
            Check.same("the same once more", x.goal(1), 0);
            SofaRailway derailed = Scene.derailed(1);
            derailed.clearGoal(0);
            derailed.setGoal(0, 2);
            Check.same("of a derailed train", derailed.goal(0), 2);
        });
        holds("Returns the distance from the block of the train to the goal.", () -> {
            SofaRailway line = Sofa.line(9, 9, 9, 9, 9, 9, 9, 9, 9, 9, 9, 9, 9, -9);
            line.addTrain(0, 5);
            Check.same("the longest", line.setGoal(0, 13), 117);
            SofaRailway pair = Sofa.line(-9, -1);
            pair.addTrain(0, 5);
            Check.same("the shortest", pair.setGoal(0, 1), 1);
            SofaRailway back = Sofa.line(-9, -1);
            back.addTrain(1, 5);
            Check.same("the way there", back.setGoal(0, 0), 9);
        });
        holds("Throws `IndexOutOfBoundsException` if there is no such train or block", () -> {
            noSuchTrain((x, train) -> x.setGoal(train, 4));
            noSuchBlock((x, block) -> x.setGoal(0, block));
        });
        holds("Throws `IllegalArgumentException` if the block is not a cushion", () -> {
            argument("a plain block", Scene::rich, x -> x.setGoal(0, 1));
            argument("the last block", Scene::rich, x -> x.setGoal(0, 6));
            SofaRailway x = Sofa.line(-1, 1, -1);
            x.addTrain(0, 5);
            Check.argument("between cushions", () -> x.setGoal(0, 1));
            Check.same("a cushion", x.setGoal(0, 2), 2);
        });
    }

    private void setGoalRefused() {
        holds("Throws `UnsupportedOperationException` if the train is there", () -> {
            unsupported("where it was added", Scene::rich, x -> x.setGoal(0, 0));
            SofaRailway x = Sofa.line(-1, -1);
            x.addTrain(0, 5);
            x.setGoal(0, 1);
            x.passTicks(1);
            Check.unsupported("where it has arrived", () -> x.setGoal(0, 1));
            Check.same("where it was", x.setGoal(0, 0), 1);
        });
        holds("Throws `NoSuchElementException` if there is no route", () -> {
            missing("an unlinked cushion", Scene::rich, x -> x.setGoal(0, 5));
            SofaRailway x = Sofa.line(1, 1, -1);
            x.addTrain(0, 5);
            Check.same("a route", x.setGoal(0, 2), 2);
            x.unlink(1, 2);
            Check.missing("no route any more", () -> x.setGoal(0, 2));
        });
        changesNothing(x -> x.setGoal(3, 4), x -> x.setGoal(0, 7), x -> x.setGoal(0, 1), x -> x.setGoal(0, 0),
                x -> x.setGoal(0, 5));
        holds(FIRST_DECIDES, () -> {
            index("no train, and no cushion", Scene::rich, x -> x.setGoal(3, 1));
            index("no train, and no route", Scene::rich, x -> x.setGoal(3, 5));
            index("no train and no block", Scene::rich, x -> x.setGoal(3, 7));
            argument("no cushion, and the train is there", Scene::rich, x -> x.setGoal(2, 6));
            argument("no cushion, and no route", Scene::plainPart, x -> x.setGoal(0, 7));
            unsupported("it is there, in a block without links", () -> {
                SofaRailway x = Sofa.of(-1);
                x.addTrain(0, 5);
                return x;
            }, x -> x.setGoal(0, 0));
        });
    }

    private void clearGoal() {
        promise(25);
        holds("Removes the goal of a train.", () -> {
            SofaRailway x = Scene.rich();
            x.clearGoal(0);
            Check.missing("no goal", () -> x.goal(0));
            Check.same("the other goal stays", x.goal(1), 4);
            Check.same("the reservation stays", x.reservedBy(1), 0);
            x.passTicks(5);
            Check.same("the train stays", x.blockOf(0), 0);
            SofaRailway cut = Sofa.line(1, -1);
            cut.addTrain(0, 5);
            cut.setGoal(0, 1);
            cut.unlink(0, 1);
            Check.same("without a route too", cut.clearGoal(0), 1);
        });
        holds("Returns the index of the block that was the goal.", () -> {
            SofaRailway x = Sofa.line(-1, 1, 1, 1, 1, 1, 1, 1, 1, 1, 1, 1, 1, -1);
            x.addTrain(5, 5);
            x.setGoal(0, 0);
            Check.same("the first block", x.clearGoal(0), 0);
            x.setGoal(0, 13);
            Check.same("the last block", x.clearGoal(0), 13);
        });
        holds("Throws `IndexOutOfBoundsException` if there is no such train",
                () -> noSuchTrain((x, train) -> x.clearGoal(train)));
        holds("Throws `NoSuchElementException` if it has no goal", () -> {
            missing("a train without a goal", Scene::rich, x -> x.clearGoal(2));
            SofaRailway x = Scene.rich();
            x.clearGoal(0);
            Check.missing("cleared before", () -> x.clearGoal(0));
            SofaRailway arrived = Sofa.line(1, -1);
            arrived.addTrain(0, 5);
            arrived.setGoal(0, 1);
            arrived.passTicks(1);
            Check.missing("arrived", () -> arrived.clearGoal(0));
        });
        changesNothing(x -> x.clearGoal(3), x -> x.clearGoal(-1), x -> x.clearGoal(2));
        trainIndexDecides((x, train) -> x.clearGoal(train));
    }

    private void reserve() {
        promise(26);
        holds("Reserves a block for a train.", () -> {
            SofaRailway x = Scene.reservedEnds();
            Check.same("the first block", x.reservedBy(0), 0);
            Check.same("the last block", x.reservedBy(13), 1);
            SofaRailway cat = Scene.rich();
            cat.cancelReservation(0);
            cat.putCat(1);
            cat.reserve(0, 1);
            Check.same("a block with a cat", cat.reservedBy(1), 0);
            SofaRailway derailed = Scene.rich();
            derailed.reserve(1, 4);
            Check.same("for a derailed train", derailed.reservedBy(4), 1);
        });
        holds("Returns the number of reservations afterwards.", () -> {
            SofaRailway x = Scene.fullBlocks();
            for (int train = 0; train < 6; train++) {
                x.addTrain(2 * train, 5);
                x.link(2 * train, 2 * train + 1);
            }
            for (int train = 0; train < 6; train++) {
                Check.same("reservations", x.reserve(train, 2 * train + 1), train + 1);
            }
            x.cancelReservation(0);
            Check.same("as many again", x.reserve(0, 1), 6);
        });
        holds("Throws `IndexOutOfBoundsException` if there is no such train or block", () -> {
            noSuchTrain((x, train) -> x.reserve(train, 4));
            noSuchBlock((x, block) -> x.reserve(2, block));
        });
        holds("Throws `IllegalArgumentException` if the block is not linked with the block of the train", () -> {
            argument("two links away", Scene::rich, x -> x.reserve(2, 4));
            argument("unlinked", Scene::rich, x -> x.reserve(2, 5));
            argument("its own block", Scene::rich, x -> x.reserve(2, 6));
            SofaRailway x = Sofa.line(1, 1);
            x.addTrain(0, 5);
            x.unlink(0, 1);
            Check.argument("linked no more", () -> x.reserve(0, 1));
        });
    }

    private void reserveRefused() {
        holds("Throws `IllegalStateException` if the train has a reservation", () -> {
            SofaRailway x = Sofa.of(1, 1, 1);
            Sofa.links(x, 0, 1, 0, 2);
            x.addTrain(0, 5);
            x.reserve(0, 1);
            Check.state("for another block", () -> x.reserve(0, 2));
            Check.state("for this block", () -> x.reserve(0, 1));
            x.unlink(0, 1);
            Check.state("for a block that is not linked any more", () -> x.reserve(0, 2));
            x.cancelReservation(0);
            Check.same("ended", x.reserve(0, 2), 1);
        });
        holds("Throws `UnsupportedOperationException` if a train is in the block, or it is reserved", () -> {
            unsupported("a derailed train", Scene::rich, x -> x.reserve(2, 3));
            unsupported("a train", Scene::rich, x -> x.reserve(1, 6));
            unsupported("reserved", Scene::rich, x -> x.reserve(2, 1));
            SofaRailway x = Scene.rich();
            x.cancelReservation(0);
            Check.same("reserved no more", x.reserve(2, 1), 1);
            Check.unsupported("now by the other train", () -> x.reserve(0, 1));
            Check.same("a goal", x.reserve(1, 4), 2);
        });
        changesNothing(x -> x.reserve(3, 4), x -> x.reserve(2, 7), x -> x.reserve(2, 4), x -> x.reserve(0, 1),
                x -> x.reserve(2, 3), x -> x.reserve(2, 1));
        holds(FIRST_DECIDES, () -> {
            index("no train, and the block is reserved", Scene::rich, x -> x.reserve(3, 1));
            index("no block, and the train has a reservation", Scene::rich, x -> x.reserve(0, 7));
            argument("not linked, and the train has a reservation", Scene::rich, x -> x.reserve(0, 4));
            argument("not linked, and a train is there", Scene::rich, x -> x.reserve(2, 0));
            argument("not linked, and it is reserved", Scene::rich, x -> x.reserve(1, 1));
            argument("its own block, in which a train is", Scene::rich, x -> x.reserve(1, 3));
            state("it has a reservation, and this block is reserved", Scene::rich, x -> x.reserve(0, 1));
            SofaRailway x = Scene.rich();
            x.reserve(1, 4);
            Check.state("it has a reservation, and a train is there", () -> x.reserve(1, 6));
        });
    }

    private void cancelReservation() {
        promise(27);
        holds("Ends the reservation of a train.", () -> {
            SofaRailway x = Scene.rich();
            x.reserve(1, 4);
            x.cancelReservation(0);
            Check.missing("not reserved", () -> x.reservedBy(1));
            Check.same("the other one stays", x.reservedBy(4), 1);
            Check.same("the goal stays", x.goal(0), 4);
            Check.same("another train can have the block", x.reserve(2, 1), 2);
        });
        holds("Returns the index of the block that was reserved.", () -> {
            SofaRailway x = Scene.reservedEnds();
            Check.same("the first block", x.cancelReservation(0), 0);
            x.unlink(12, 13);
            Check.same("the last block, linked no more", x.cancelReservation(1), 13);
        });
        holds("Throws `IndexOutOfBoundsException` if there is no such train",
                () -> noSuchTrain((x, train) -> x.cancelReservation(train)));
        holds("Throws `NoSuchElementException` if it has no reservation", () -> {
            missing("none", Scene::rich, x -> x.cancelReservation(2));
            missing("a derailed train", Scene::rich, x -> x.cancelReservation(1));
            SofaRailway x = Scene.rich();
            x.cancelReservation(0);
            Check.missing("ended before", () -> x.cancelReservation(0));
            SofaRailway moved = Scene.rich();
            moved.passTicks(1);
            Check.missing("moved", () -> moved.cancelReservation(0));
        });
        changesNothing(x -> x.cancelReservation(3), x -> x.cancelReservation(-1), x -> x.cancelReservation(2));
        trainIndexDecides((x, train) -> x.cancelReservation(train));
    }

    /** Six trains, all derailed in the odd blocks of a railway of pairs. */
    private static SofaRailway sixDerailed() {
        SofaRailway x = new SofaRailway();
        for (int train = 0; train < 6; train++) {
            x.addBlock(1);
            x.addCushion(3);
            x.link(2 * train, 2 * train + 1);
            x.addTrain(2 * train, 5);
            x.putCat(2 * train + 1);
            x.setGoal(train, 2 * train + 1);
        }
        x.passTicks(1);
        return x;
    }

    private void rescue() {
        promise(28);
        holds("Rescues a derailed train.", () -> {
            SofaRailway x = Scene.derailed(1);
            x.passTicks(3);
            Check.same("it does nothing before", x.remainingTicks(0), 1);
            x.rescue(0);
            Check.same("the remaining ticks stay", x.remainingTicks(0), 1);
            Check.same("the block stays", x.blockOf(0), 1);
            Check.same("it arrives then", x.passTicks(2), 1);
        });
        holds("It is not derailed afterwards.", () -> {
            SofaRailway x = sixDerailed();
            x.rescue(5);
            Check.no("the last train", x.isDerailed(5));
            Check.yes("the first train still", x.isDerailed(0));
            x.rescue(0);
            Check.no("the first train", x.isDerailed(0));
            Check.yes("the second train still", x.isDerailed(1));
        });
        holds("Returns the number of derailed trains afterwards.", () -> {
            SofaRailway x = sixDerailed();
            for (int train = 0; train < 6; train++) {
                Check.same("derailed trains", x.rescue(train), 5 - train);
            }
        });
        holds("Throws `IndexOutOfBoundsException` if there is no such train",
                () -> noSuchTrain((x, train) -> x.rescue(train)));
        holds("Throws `IllegalStateException` if it is not derailed", () -> {
            state("never derailed", Scene::rich, x -> x.rescue(0));
            SofaRailway x = Scene.rich();
            x.rescue(1);
            Check.state("rescued before", () -> x.rescue(1));
        });
        changesNothing(x -> x.rescue(3), x -> x.rescue(-1), x -> x.rescue(0));
        trainIndexDecides((x, train) -> x.rescue(train));
    }

    private void trainCount() {
        promise(29);
        holds("Returns the number of trains.", () -> {
            SofaRailway x = Scene.fullBlocks();
            Check.same("none", x.trainCount(), 0);
            for (int count = 1; count <= 6; count++) {
                x.addTrain(count, 5);
                Check.same("trains", x.trainCount(), count);
            }
            Check.state("a refused one", () -> x.addTrain(0, 5));
            Check.same("still 6", x.trainCount(), 6);
            x.undo();
            Check.same("one is undone", x.trainCount(), 5);
        });
    }

    private void blockOf() {
        promise(30);
        holds("Returns the block of a train.", () -> {
            SofaRailway x = Scene.derailed(1);
            Check.same("moved and derailed", x.blockOf(0), 1);
            x.rescue(0);
            x.passTicks(2);
            Check.same("at the goal", x.blockOf(0), 2);
            x.undo();
            Check.same("undone", x.blockOf(0), 1);
        });
        holds("Returns the index of the block.", () -> {
            SofaRailway x = Scene.fullBlocks();
            x.addTrain(13, 5);
            x.addTrain(0, 5);
            Check.same("the last block", x.blockOf(0), 13);
            Check.same("the first block", x.blockOf(1), 0);
            Check.same("the last train", Scene.fullTrains().blockOf(5), 5);
        });
        holds("Throws `IndexOutOfBoundsException` if there is no such train",
                () -> noSuchTrain((x, train) -> x.blockOf(train)));
        changesNothing(x -> x.blockOf(3), x -> x.blockOf(-1));
    }

    private void priority() {
        promise(31);
        holds("Returns the priority of a train.", () -> {
            SofaRailway x = Scene.fullBlocks();
            int[] priorities = {9, 1, 5, 9, 2, 8};
            for (int train = 0; train < 6; train++) {
                x.addTrain(train, priorities[train]);
            }
            for (int train = 0; train < 6; train++) {
                Check.same("of train " + train, x.priority(train), priorities[train]);
            }
        });
        holds("Returns the priority.", () -> {
            SofaRailway x = Scene.blocks(2);
            x.addTrain(0, 9);
            x.undo();
            x.addTrain(1, 1);
            Check.same("of the train that is there now", x.priority(0), 1);
        });
        holds("Throws `IndexOutOfBoundsException` if there is no such train",
                () -> noSuchTrain((x, train) -> x.priority(train)));
        changesNothing(x -> x.priority(3), x -> x.priority(-1));
    }

    private void remainingTicks() {
        promise(32);
        holds("Returns the remaining ticks of a train.", () -> {
            SofaRailway x = Sofa.line(9, -9);
            x.addTrain(0, 5);
            Check.same("0 at first", x.remainingTicks(0), 0);
            x.setGoal(0, 1);
            for (int due = 9; due >= 0; due--) {
                x.passTicks(1);
                Check.same("down from 9", x.remainingTicks(0), due);
            }
            x.passTicks(1);
            Check.same("not below 0", x.remainingTicks(0), 0);
        });
        holds("Returns the number of ticks.", () -> {
            SofaRailway x = sixDerailed();
            x.rescue(5);
            x.passTicks(1);
            Check.same("of the last train", x.remainingTicks(5), 2);
            Check.same("of the first train", x.remainingTicks(0), 3);
        });
        holds("Throws `IndexOutOfBoundsException` if there is no such train",
                () -> noSuchTrain((x, train) -> x.remainingTicks(train)));
        changesNothing(x -> x.remainingTicks(3), x -> x.remainingTicks(-1));
    }

    private void goal() {
        promise(33);
        holds("Returns the goal of a train.", () -> {
            SofaRailway x = Sofa.line(-1, 1, 1, 1, 1, 1, 1, 1, 1, 1, 1, 1, 1, -1);
            x.addTrain(5, 5);
            x.addTrain(6, 5);
            x.setGoal(0, 0);
            x.setGoal(1, 13);
            Check.same("the first block", x.goal(0), 0);
            Check.same("the last block", x.goal(1), 13);
        });
        holds("Returns the index of the block.", () -> {
            Check.same("of a derailed train", Scene.rich().goal(1), 4);
            SofaRailway x = Scene.rich();
            x.unlink(3, 4);
            Check.same("without a route", x.goal(0), 4);
        });
        holds("Throws `IndexOutOfBoundsException` if there is no such train",
                () -> noSuchTrain((x, train) -> x.goal(train)));
        holds("Throws `NoSuchElementException` if it has no goal", () -> {
            missing("none", Scene::rich, x -> x.goal(2));
            SofaRailway x = Sofa.line(1, -1);
            x.addTrain(0, 5);
            x.setGoal(0, 1);
            x.passTicks(1);
            Check.missing("arrived", () -> x.goal(0));
            x.undo();
            x.clearGoal(0);
            Check.missing("cleared", () -> x.goal(0));
        });
        changesNothing(x -> x.goal(3), x -> x.goal(2));
        trainIndexDecides((x, train) -> x.goal(train));
    }

    private void isDerailed() {
        promise(34);
        holds("Returns whether a train is derailed.", () -> {
            SofaRailway x = sixDerailed();
            Check.yes("the first train", x.isDerailed(0));
            Check.yes("the last train", x.isDerailed(5));
            x.undo();
            Check.no("undone", x.isDerailed(5));
        });
        holds("Returns true if it is derailed.", () -> {
            SofaRailway x = Scene.rich();
            Check.no("the train before", x.isDerailed(0));
            Check.yes("the derailed train", x.isDerailed(1));
            Check.no("the train behind", x.isDerailed(2));
            x.passTicks(50);
            Check.yes("for good", x.isDerailed(1));
        });
        holds("Throws `IndexOutOfBoundsException` if there is no such train",
                () -> noSuchTrain((x, train) -> x.isDerailed(train)));
        changesNothing(x -> x.isDerailed(3), x -> x.isDerailed(-1));
    }

    private void waits() {
        promise(35);
        holds("Returns how often a train has waited so far.", () -> {
            SofaRailway x = Scene.jammedRing(6);
            Check.same("0 at first", x.waits(5), 0);
            x.passTicks(1);
            Check.same("the first train", x.waits(0), 1);
            Check.same("the last train", x.waits(5), 1);
            x.clearGoal(5);
            x.passTicks(1);
            Check.same("without a goal", x.waits(5), 1);
            Check.same("with one", x.waits(0), 2);
        });
        holds("Returns the number of waits.", () -> {
            SofaRailway x = Scene.jammedRing(3);
            for (int call = 0; call < 400; call++) {
                x.passTicks(50);
            }
            Check.same("as many as can be", x.waits(2), 20000);
        });
        holds("Throws `IndexOutOfBoundsException` if there is no such train",
                () -> noSuchTrain((x, train) -> x.waits(train)));
        changesNothing(x -> x.waits(3), x -> x.waits(-1));
    }

    private void trainByPriority() {
        promise(36);
        holds("Returns a train by the order in which trains are considered in a tick.", () -> {
            SofaRailway x = Scene.fullBlocks();
            int[] priorities = {1, 9, 1, 5, 9, 5};
            for (int train = 0; train < 6; train++) {
                x.addTrain(13 - train, priorities[train]);
            }
            int[] due = {1, 4, 3, 5, 0, 2};
            for (int rank = 0; rank < 6; rank++) {
                Check.same("rank " + rank, x.trainByPriority(rank), due[rank]);
            }
        });
        holds("Returns the index of the train.", () -> {
            Check.same("equal ones, the first", Scene.fullTrains().trainByPriority(0), 0);
            Check.same("equal ones, the last", Scene.fullTrains().trainByPriority(5), 5);
            Check.same("a derailed train", Scene.rich().trainByPriority(0), 1);
        });
        holds("Throws `NoSuchElementException` if there is no such rank", () -> {
            for (int rank : Scene.NO_TRAIN) {
                missing("rank " + rank, Scene::rich, x -> x.trainByPriority(rank));
            }
            missing("rank 0 of none", Scene::fullBlocks, x -> x.trainByPriority(0));
            missing("rank 6 of 6", Scene::fullTrains, x -> x.trainByPriority(6));
            Check.same("rank 2 of 3", Scene.rich().trainByPriority(2), 0);
        });
        changesNothing(x -> x.trainByPriority(3), x -> x.trainByPriority(-1));
    }

    private void blockedBy() {
        promise(37);
        holds("Returns the train by which a train is blocked.", () -> {
            SofaRailway x = Scene.jammedRing(6);
            Check.same("the first by the second", x.blockedBy(0), 1);
            Check.same("the last by the first", x.blockedBy(5), 0);
        });
        holds("Returns the index of the other train.", () -> {
            SofaRailway x = Sofa.line(1, 9, -1);
            x.addTrain(0, 5);
            x.setGoal(0, 2);
            x.addTrain(2, 5);
            x.passTicks(1);
            Check.same("with nine remaining ticks", x.blockedBy(0), 1);
            SofaRailway derailed = Scene.derailed(1);
            derailed.addTrain(0, 5);
            derailed.setGoal(1, 2);
            Check.same("by a derailed train", derailed.blockedBy(1), 0);
        });
        holds("Throws `IndexOutOfBoundsException` if there is no such train",
                () -> noSuchTrain((x, train) -> x.blockedBy(train)));
        holds("Throws `NoSuchElementException` if it is not blocked", () -> {
            missing("no goal", Scene::rich, x -> x.blockedBy(2));
            missing("derailed", Scene::derailedBehindATrain, x -> x.blockedBy(0));
            missing("a free block", Scene::rich, x -> x.blockedBy(0));
            SofaRailway x = Scene.rich();
            x.setGoal(2, 0);
            Check.missing("a block that another train has reserved", () -> x.blockedBy(2));
            SofaRailway cut = Sofa.line(1, 1, -1);
            cut.addTrain(0, 5);
            cut.addTrain(1, 5);
            cut.setGoal(0, 2);
            cut.unlink(1, 2);
            Check.missing("no next block", () -> cut.blockedBy(0));
        });
        changesNothing(x -> x.blockedBy(3), x -> x.blockedBy(2));
        trainIndexDecides((x, train) -> x.blockedBy(train));
    }

    private interface Stuck {
        int count(SofaRailway x);
    }

    private static void stuck(Stuck stuck) {
        Check.same("no trains", stuck.count(new SofaRailway()), 0);
        Check.same("no goals", stuck.count(Scene.fullTrains()), 0);
        Check.same("six in a ring", stuck.count(Scene.jammedRing(6)), 6);
        Check.same("three in a ring, the goals behind", stuck.count(Scene.jammedRing(3)), 3);
    }

    /** Trains in blocks 0 to 3 of a line, 3 facing 2; those behind it only wait for them. */
    private static SofaRailway queue() {
        SofaRailway x = Sofa.line(-1, -1, -1, -1);
        for (int block = 0; block < 4; block++) {
            x.addTrain(block, 5);
        }
        x.setGoal(0, 3);
        x.setGoal(1, 3);
        x.setGoal(2, 3);
        return x;
    }

    private static void stuckEdges(Stuck stuck) {
        SofaRailway x = queue();
        Check.same("a queue", stuck.count(x), 0);
        x.setGoal(3, 0);
        Check.same("two face each other, two wait behind", stuck.count(x), 2);
        x.setGoal(1, 0);
        Check.same("two pairs in a line", stuck.count(x), 4);
        Check.same("two pairs", stuck.count(Scene.twoPairs()), 4);
        Check.same("a derailed train closes no ring", stuck.count(Scene.derailedBehindATrain()), 0);
        SofaRailway rescued = Scene.derailedBehindATrain();
        rescued.rescue(0);
        Check.same("a rescued one does", stuck.count(rescued), 2);
        SofaRailway ring = Scene.jammedRing(6);
        ring.clearGoal(5);
        Check.same("one without a goal opens the ring", stuck.count(ring), 0);
    }

    private void deadlocked() {
        promise(38);
        holds("Returns the number of deadlocked trains, computed by following from each train the trains by which it "
                + "is blocked.", () -> stuckEdges(SofaRailway::deadlocked));
        holds("Returns the number of trains.", () -> stuck(SofaRailway::deadlocked));
    }

    private void deadlockedByTable() {
        promise(39);
        holds("Returns the same as deadlocked, but is computed from a table of all trains that block each other, "
                + "directly or over other ones.", () -> stuckEdges(SofaRailway::deadlockedByTable));
        holds("Returns the number of trains.", () -> stuck(SofaRailway::deadlockedByTable));
    }
}
