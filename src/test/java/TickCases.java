/** Boundary cases of promises 40 to 49: ticks, statistics and output. */
final class TickCases extends Cases {
    TickCases() {
        passTicks();
        ticks();
        arrivals();
        ticksUntilArrival();
        ticksUntilNoArrival();
        meanWaits();
        occupiedFraction();
        writeTrain();
        writeSignals();
        outputCharacter();
        isConsistent();
    }

    /** Six trains that each arrive in their first tick. */
    private static SofaRailway sixArrive() {
        SofaRailway x = new SofaRailway();
        for (int train = 0; train < 6; train++) {
            x.addCushion(1);
            x.addCushion(1);
            x.link(2 * train, 2 * train + 1);
            x.addTrain(2 * train, 1 + train);
            x.setGoal(train, 2 * train + 1);
        }
        return x;
    }

    private void passTicks() {
        promise(40);
        holds("Lets ticks pass.", () -> {
            SofaRailway x = Sofa.line(1, 9, 9, 9, 9, 9, -1);
            x.addTrain(0, 5);
            x.setGoal(0, 6);
            x.passTicks(1);
            Check.same("one tick", x.blockOf(0) + 100 * x.remainingTicks(0), 901);
            x.undo();
            x.passTicks(50);
            Check.same("fifty ticks", x.blockOf(0) + 100 * x.remainingTicks(0), 5);
            x.passTicks(1);
            Check.same("and one", x.blockOf(0), 6);
        });
        holds("Returns the number of arrivals in these ticks.", () -> {
            Check.same("none", new SofaRailway().passTicks(50), 0);
            SofaRailway x = sixArrive();
            Check.same("six in one tick", x.passTicks(1), 6);
            Check.same("none afterwards", x.passTicks(50), 0);
            x.setGoal(5, 10);
            Check.same("not those of the ticks before", x.passTicks(2), 1);
        });
        holds("Throws `IllegalArgumentException` if ticks is not from 1 to 50", () -> {
            for (int ticks : new int[] {0, 51, -1, 52, 100, 257, Integer.MIN_VALUE, Integer.MAX_VALUE}) {
                argument(ticks + " ticks", Scene::rich, x -> x.passTicks(ticks));
            }
            Check.same("1 tick", Scene.rich().passTicks(1), 0);
            Check.same("50 ticks", Scene.rich().passTicks(50), 0);
        });
        changesNothing(x -> x.passTicks(0), x -> x.passTicks(51), x -> x.passTicks(-1));
    }

    private void ticks() {
        promise(41);
        holds("Returns the number of ticks that have passed.", () -> {
            SofaRailway x = new SofaRailway();
            Check.same("none", x.ticks(), 0);
            x.passTicks(1);
            Check.same("one", x.ticks(), 1);
            x.passTicks(50);
            Check.same("51", x.ticks(), 51);
            Check.argument("refused", () -> x.passTicks(51));
            Check.same("still 51", x.ticks(), 51);
            x.undo();
            Check.same("undone", x.ticks(), 1);
        });
        holds("Returns the number of ticks.", () -> {
            SofaRailway x = new SofaRailway();
            for (int call = 0; call < 511; call++) {
                x.passTicks(50);
            }
            Check.same("as many as can be", x.ticks(), 25550);
        });
    }

    private void arrivals() {
        promise(42);
        holds("Returns the number of arrivals so far.", () -> {
            SofaRailway x = sixArrive();
            Check.same("none", x.arrivals(), 0);
            x.passTicks(1);
            Check.same("six", x.arrivals(), 6);
            x.setGoal(0, 0);
            x.passTicks(2);
            Check.same("one more", x.arrivals(), 7);
            x.undo();
            Check.same("undone", x.arrivals(), 6);
            Check.same("an arrival that derails", derailedAtTheGoal().arrivals(), 1);
        });
        holds("Returns the number of arrivals.", () -> {
            SofaRailway x = Sofa.line(-1, -1);
            x.addTrain(0, 5);
            for (int arrival = 1; arrival <= 200; arrival++) {
                x.setGoal(0, arrival % 2);
                x.passTicks(2);
            }
            Check.same("many", x.arrivals(), 200);
        });
    }

    private static SofaRailway derailedAtTheGoal() {
        SofaRailway x = Sofa.line(1, -1);
        x.addTrain(0, 5);
        x.setGoal(0, 1);
        x.putCat(1);
        x.passTicks(1);
        return x;
    }

    /** The train enters block 10 in tick 91, stays there for the length, and enters the goal in the tick after it. */
    private static SofaRailway longWay(int length) {
        SofaRailway x = Sofa.line(1, 9, 9, 9, 9, 9, 9, 9, 9, 9, length, -1);
        x.addTrain(0, 5);
        x.setGoal(0, 11);
        return x;
    }

    private void ticksUntilArrival() {
        promise(43);
        holds("Returns after how many ticks a train will arrive at its goal if only ticks pass.", () -> {
            SofaRailway x = longWay(7);
            String before = Sofa.picture(x);
            Check.same("a long way", x.ticksUntilArrival(0), 99);
            Check.same("nothing has changed", Sofa.picture(x), before);
            SofaRailway last = sixArrive();
            last.undo();
            last.setGoal(5, 11);
            Check.same("the last train", last.ticksUntilArrival(5), 1);
            SofaRailway other = Sofa.line(1, 3, -1, -1);
            other.addTrain(0, 5);
            other.addTrain(1, 5);
            other.setGoal(0, 2);
            other.setGoal(1, 3);
            Check.same("behind another train", other.ticksUntilArrival(1), 3);
            other.clearGoal(1);
            Check.missing("behind one that stays", () -> other.ticksUntilArrival(0));
            Check.same("an arrival that derails", catAtTheGoal().ticksUntilArrival(0), 1);
        });
        holds("Returns the number of ticks, 1 to 99.", () -> {
            SofaRailway x = longWay(7);
            for (int left = 99; left >= 97; left--) {
                Check.same("left", x.ticksUntilArrival(0), left);
                x.passTicks(1);
            }
            x.passTicks(50);
            Check.same("46 left", x.ticksUntilArrival(0), 46);
            x.passTicks(45);
            Check.same("1 left", x.ticksUntilArrival(0), 1);
        });
        holds("Throws `IndexOutOfBoundsException` if there is no such train",
                () -> noSuchTrain((x, train) -> x.ticksUntilArrival(train)));
    }

    private static SofaRailway catAtTheGoal() {
        SofaRailway x = derailedAtTheGoal();
        x.undo();
        return x;
    }

    private void ticksUntilNoArrival() {
        holds("Throws `NoSuchElementException` if it has no goal, or does not arrive within 99 ticks", () -> {
            missing("no goal", Scene::rich, x -> x.ticksUntilArrival(2));
            missing("100 ticks", () -> longWay(8), x -> x.ticksUntilArrival(0));
            missing("101 ticks", () -> longWay(9), x -> x.ticksUntilArrival(0));
            missing("derailed", Scene::rich, x -> x.ticksUntilArrival(1));
            missing("derails on the way", Scene::rich, x -> x.ticksUntilArrival(0));
            missing("waits for ever", () -> Scene.jammedRing(6), x -> x.ticksUntilArrival(5));
            SofaRailway arrived = derailedAtTheGoal();
            Check.missing("arrived", () -> arrived.ticksUntilArrival(0));
            SofaRailway cut = longWay(1);
            cut.unlink(10, 11);
            Check.missing("no route", () -> cut.ticksUntilArrival(0));
            SofaRailway late = longWay(8);
            late.passTicks(1);
            Check.same("99 ticks after one", late.ticksUntilArrival(0), 99);
        });
        changesNothing(x -> x.ticksUntilArrival(3), x -> x.ticksUntilArrival(2), x -> x.ticksUntilArrival(0));
        trainIndexDecides((x, train) -> x.ticksUntilArrival(train));
    }

    private void meanWaits() {
        promise(44);
        holds("Returns the mean number of waits of the trains: the sum divided by the number of trains, both converted "
                + "to double.", () -> {
            SofaRailway x = Scene.jammedRing(3);
            x.clearGoal(2);
            x.passTicks(1);
            Check.same("two thirds", x.meanWaits(), 2.0 / 3.0);
            x.passTicks(2);
            Check.same("six thirds", x.meanWaits(), 2.0);
            x.clearGoal(1);
            x.passTicks(1);
            Check.same("seven thirds", x.meanWaits(), 7.0 / 3.0);
        });
        holds("Returns the mean.", () -> {
            Check.same("no waits", Scene.fullTrains().meanWaits(), 0.0);
            SofaRailway x = Scene.jammedRing(6);
            for (int call = 0; call < 400; call++) {
                x.passTicks(50);
            }
            Check.same("many waits", x.meanWaits(), 20000.0);
        });
        holds("Throws `ArithmeticException` if there are no trains", () -> {
            Check.arithmetic("nothing", () -> new SofaRailway().meanWaits());
            SofaRailway x = Scene.blocks(1);
            Check.arithmetic("a block", () -> x.meanWaits());
            x.addTrain(0, 5);
            Check.same("a train", x.meanWaits(), 0.0);
            x.undo();
            Check.arithmetic("an undone train", () -> x.meanWaits());
        });
        changesNothing(Scene::usedTrainless, x -> x.meanWaits());
    }

    private void occupiedFraction() {
        promise(45);
        holds("Returns the fraction of blocks with a train, both numbers converted to float.", () -> {
            Check.same("six of seven", Scene.fullTrains().occupiedFraction(), 6f / 7f);
            Check.same("derailed ones too", Scene.rich().occupiedFraction(), 3f / 7f);
            SofaRailway x = Scene.fullBlocks();
            x.addTrain(13, 5);
            Check.same("one of fourteen", x.occupiedFraction(), 1f / 14f);
        });
        holds("Returns the fraction.", () -> {
            Check.same("none", Scene.fullBlocks().occupiedFraction(), 0f);
            Check.same("all", Scene.jammedRing(6).occupiedFraction(), 1f);
        });
        holds("Throws `ArithmeticException` if there are no blocks", () -> {
            SofaRailway x = new SofaRailway();
            Check.arithmetic("nothing", () -> x.occupiedFraction());
            x.addBlock(1);
            Check.same("a block", x.occupiedFraction(), 0f);
            x.undo();
            Check.arithmetic("an undone block", () -> x.occupiedFraction());
        });
        changesNothing(Scene::usedNothing, x -> x.occupiedFraction());
    }

    private static void wrote(String what, SofaRailway x, int length, String due) {
        Check.same(what + ", its length", length, due.length());
        Check.same(what, Sofa.output(x, due.length()), due);
        Check.index(what + ", its end", () -> x.outputCharacter(due.length()));
    }

    /** Train 5 is derailed in block 13, of that length, on its way to cushion 12. */
    private static SofaRailway lastTrain(int length) {
        SofaRailway x = Sofa.of(1, 1, 1, 1, 1, 1, 1, 1, 1, 1, 1, 1, -1, length);
        Sofa.links(x, 5, 13, 13, 12);
        for (int train = 0; train < 6; train++) {
            x.addTrain(train, 5);
        }
        x.setGoal(5, 12);
        x.putCat(13);
        x.passTicks(1);
        return x;
    }

    private void writeTrain() {
        promise(46);
        holds("Writes a train as the output, which replaces the previous one: \"T\" and its index, \"@\" and its block, "
                + "\"+\" and its remaining ticks if there are some, \">\" and its goal if it has one, and \"!\" if it "
                + "is derailed.", () -> {
            SofaRailway x = lastTrain(1);
            wrote("all of it", x, x.writeTrain(5), "T5@13+1>12!");
            x.clearGoal(5);
            wrote("no goal", x, x.writeTrain(5), "T5@13+1!");
            x.rescue(5);
            wrote("not derailed", x, x.writeTrain(5), "T5@13+1");
            x.passTicks(1);
            wrote("no remaining ticks", x, x.writeTrain(5), "T5@13");
            x.setGoal(5, 12);
            wrote("a goal only", x, x.writeTrain(5), "T5@13>12");
            x.writeSignals();
            wrote("the first train, after a longer output", x, x.writeTrain(0), "T0@0");
            SofaRailway derailed = derailedAtTheGoal();
            wrote("derailed without a goal", derailed, derailed.writeTrain(0), "T0@1+1!");
            SofaRailway zero = Sofa.line(-1, 1);
            zero.addTrain(1, 5);
            zero.setGoal(0, 0);
            wrote("the goal 0", zero, zero.writeTrain(0), "T0@1>0");
            SofaRailway ten = Sofa.line(1, 1, 1, 1, 1, 1, 1, 1, 1, -1, -1);
            ten.addTrain(10, 5);
            ten.setGoal(0, 9);
            wrote("the first block with two digits", ten, ten.writeTrain(0), "T0@10>9");
        });
        holds("Example: \"T0@4+3>12!\".", () -> {
            SofaRailway x = Sofa.of(1, 1, 1, 1, 3, 1, 1, 1, 1, 1, 1, 1, -1);
            Sofa.links(x, 3, 4, 4, 12);
            x.addTrain(3, 5);
            x.setGoal(0, 12);
            x.putCat(4);
            x.passTicks(1);
            wrote("the example", x, x.writeTrain(0), "T0@4+3>12!");
        });
        holds("Returns the length of the output.", () -> {
            Check.same("the longest", lastTrain(9).writeTrain(5), 11);
            Check.same("the shortest", Scene.fullTrains().writeTrain(0), 4);
        });
        holds("Throws `IndexOutOfBoundsException` if there is no such train",
                () -> noSuchTrain((x, train) -> x.writeTrain(train)));
        changesNothing(x -> x.writeTrain(3), x -> x.writeTrain(-1));
    }

    private void writeSignals() {
        promise(47);
        holds("Writes the signals of all blocks as the output, which replaces the previous one, in the order of their "
                + "indices.", () -> {
            SofaRailway x = Scene.rich();
            wrote("each signal", x, x.writeSignals(), "orcoffo");
            x.putCat(1);
            wrote("after a change", x, x.writeSignals(), "occoffo");
            SofaRailway none = new SofaRailway();
            none.addBlock(1);
            none.writeSignals();
            none.undo();
            wrote("nothing in place of something", none, none.writeSignals(), "");
        });
        holds("Returns the length of the output.", () -> {
            Check.same("none", new SofaRailway().writeSignals(), 0);
            Check.same("one", Scene.blocks(1).writeSignals(), 1);
            Check.same("fourteen", Scene.fullBlocks().writeSignals(), 14);
            SofaRailway x = Scene.fullBlocks();
            x.putCat(13);
            wrote("fourteen of them", x, x.writeSignals(), "fffffffffffffc");
        });
    }

    private void outputCharacter() {
        promise(48);
        holds("Returns a character of the output, which is empty at first.", () -> {
            index("empty at first", SofaRailway::new, x -> x.outputCharacter(0));
            index("empty with blocks too", Scene::fullTrains, x -> x.outputCharacter(0));
            Check.same("the first", Scene.rich().outputCharacter(0), 'T');
            Check.same("the last", Scene.rich().outputCharacter(8), '!');
        });
        holds("Returns the character.", () -> {
            SofaRailway x = Scene.fullBlocks();
            x.putCat(13);
            x.addTrain(0, 5);
            x.writeSignals();
            Check.same("the first of fourteen", x.outputCharacter(0), 'o');
            Check.same("the last of fourteen", x.outputCharacter(13), 'c');
            x.removeCat(13);
            Check.same("as it was written", x.outputCharacter(13), 'c');
        });
        holds("Throws `IndexOutOfBoundsException` if there is no such character", () -> {
            for (int index : new int[] {-1, 9, 10, 11, 14, 32, Integer.MIN_VALUE, Integer.MAX_VALUE}) {
                index("character " + index + " of 9", Scene::rich, x -> x.outputCharacter(index));
            }
            SofaRailway x = Scene.fullBlocks();
            x.addTrain(0, 5);
            x.writeSignals();
            Check.index("character 14 of 14", () -> x.outputCharacter(14));
            x.writeTrain(0);
            Check.index("a character of the output before", () -> x.outputCharacter(4));
        });
        changesNothing(x -> x.outputCharacter(9), x -> x.outputCharacter(-1));
    }

    private void isConsistent() {
        promise(49);
        holds("Checks by second methods whether the railway is consistent: distance and distanceByRounds agree for all "
                + "pairs of blocks, partCount and partCountByUnions agree, and deadlocked and deadlockedByTable agree.",
                () -> {
            Check.yes("several parts, one derailed", Scene.rich().isConsistent());
            Check.yes("a part more", Scene.plainPart().isConsistent());
            Check.yes("a jam", Scene.jammedRing(6).isConsistent());
            Check.yes("two jams", Scene.twoPairs().isConsistent());
            Check.yes("a train that is derailed in a jam", Scene.derailedBehindATrain().isConsistent());
        });
        holds("Returns true if it is consistent.", () -> {
            Check.yes("nothing", new SofaRailway().isConsistent());
            Check.yes("a block", Scene.blocks(1).isConsistent());
            Check.yes("without links", Scene.fullBlocks().isConsistent());
            Check.yes("with all links", Scene.complete().isConsistent());
            Check.yes("six trains", Scene.fullTrains().isConsistent());
        });
    }
}
