import java.util.ArrayList;
import java.util.List;

/** Boundary cases of the terms that tell what a change is, and what a call that throws does. */
final class ChangeCases extends Cases {
    ChangeCases() {
        section("Terms");
        eachChange();
        noChange();
        latestEight();
        notAffected();
        eachRefusal();
        firstListed();
    }

    /** Each kind of change, possible on the rich railway. The last one lets a train wait. */
    static List<Call> changes() {
        List<Call> changes = new ArrayList<>();
        changes.add(x -> x.addBlock(7));
        changes.add(x -> x.addCushion(7));
        changes.add(x -> x.link(0, 5));
        changes.add(x -> x.unlink(3, 4));
        changes.add(x -> x.putCat(5));
        changes.add(x -> x.removeCat(2));
        changes.add(x -> x.addTrain(5, 9));
        changes.add(x -> x.setGoal(2, 0));
        changes.add(x -> x.clearGoal(1));
        changes.add(x -> x.reserve(1, 4));
        changes.add(x -> x.cancelReservation(0));
        changes.add(x -> x.rescue(1));
        changes.add(x -> x.passTicks(2));
        changes.add(x -> Sofa.run(x, "3;goal 2>0;tick 2;cat 5;block 1"));
        return changes;
    }

    private void eachChange() {
        holds("A successful call of addBlock, addCushion, link, unlink, putCat, removeCat, addTrain, setGoal, clearGoal, "
                + "reserve, cancelReservation, rescue, passTicks or execute is a change.", () -> {
            int number = 0;
            for (Call change : changes()) {
                SofaRailway x = Scene.rich();
                String before = Sofa.picture(x);
                change.on(x);
                String after = Sofa.picture(x);
                Check.no("change " + number + " shows", after.equals(before));
                Check.same("change " + number + " counts once", x.undoCount(), 3);
                Check.same("change " + number + " is undone", x.undo(), 2);
                Check.same("after undo of change " + number, Sofa.picture(x), before);
                Sofa.feed(x, "tick ");
                change.on(x);
                Check.same("after change " + number + " again", Sofa.picture(x), after);
                number++;
            }
            SofaRailway same = Scene.rich();
            same.setGoal(0, 4);
            Check.same("the same goal once more is a change", same.undoCount(), 3);
            same.undo();
            Check.same("and undone alone", same.goal(0), 4);
        });
    }

    private void noChange() {
        holds("A successful call of addBlock, addCushion, link, unlink, putCat, removeCat, addTrain, setGoal, clearGoal, "
                + "reserve, cancelReservation, rescue, passTicks or execute is a change.", () -> {
            SofaRailway x = Scene.rich();
            x.setGoal(2, 0);
            Check.argument("refused", () -> x.addBlock(0));
            Check.argument("malformed", () -> Sofa.run(x, "!"));
            Check.unsupported("failing", () -> Sofa.run(x, "tick 1;tick 0"));
            x.feed('t');
            x.writeTrain(0);
            x.writeSignals();
            Check.yes("a look ahead", x.ticksUntilArrival(2) > 1);
            x.isConsistent();
            x.save();
            Sofa.picture(x);
            Check.same("none of these is one", x.undoCount(), 3);
        });
    }

    private void latestEight() {
        holds("At most the latest 8 changes that are not undone can be undone.", () -> {
            for (int changes = 7; changes <= 10; changes++) {
                SofaRailway x = new SofaRailway();
                for (int change = 0; change < changes; change++) {
                    x.passTicks(1);
                }
                int can = Math.min(changes, 8);
                Check.same("of " + changes, x.undoCount(), can);
                for (int left = can - 1; left >= 0; left--) {
                    Check.same("left of " + changes, x.undo(), left);
                }
                Check.state("no more of " + changes, () -> x.undo());
                Check.same("what stays of " + changes, x.ticks(), changes - can);
            }
            SofaRailway mixed = new SofaRailway();
            for (int round = 0; round < 20; round++) {
                mixed.passTicks(10);
                mixed.passTicks(20);
                Check.same("undone in round " + round, mixed.undo(), Math.min(round + 1, 7));
            }
            Check.same("only those that are not undone", mixed.ticks(), 200);
        });
    }

    private void notAffected() {
        holds("The input buffer, the output, the error position and the failed command are affected neither by undo nor "
                + "by saving.", () -> {
            SofaRailway undone = Scene.rich();
            undone.undo();
            asBefore("after undo", undone);
            SofaRailway saved = Scene.rich();
            saved.save();
            asBefore("after save", saved);
            SofaRailway restored = Scene.rich();
            restored.restore();
            asBefore("after restore", restored);
            SofaRailway later = Scene.rich();
            later.save();
            Sofa.attempt(later, "7!");
            Sofa.attempt(later, "tick 0");
            later.writeSignals();
            Sofa.feed(later, "ti");
            later.restore();
            Check.same("not those of when it was saved: error position", later.errorPosition(), 6);
            Check.same("failed command", later.failedCommand(), 0);
            Check.same("output", Sofa.output(later, 7), "orcoffo");
            Check.same("input", Sofa.run(later, "ck 5"), 1);
            later.undo();
            Check.same("nor undone", later.feed('a'), 1);
        });
    }

    /** The output, what is kept, and the input of the rich railway. */
    private static void asBefore(String what, SofaRailway x) {
        outputOfRich(what, x);
        Check.same(what + " the error position", x.errorPosition(), 5);
        Check.same(what + " the failed command", x.failedCommand(), 1);
        inputOfRich(what, x);
    }

    private void eachRefusal() {
        changesNothing(x -> x.addBlock(0), x -> x.addCushion(10), x -> x.link(0, 1), x -> x.unlink(0, 2),
                x -> x.putCat(2), x -> x.removeCat(0), x -> x.addTrain(0, 5), x -> x.setGoal(0, 5),
                x -> x.clearGoal(2), x -> x.reserve(2, 1), x -> x.cancelReservation(1), x -> x.rescue(0),
                x -> x.passTicks(51));
        holds(CHANGES_NOTHING, () -> {
            SofaRailway x = Scene.rich();
            Check.argument("what its description says otherwise", () -> Sofa.run(x, "9!"));
            Check.same("the error position is kept", x.errorPosition(), 6);
            Check.same("the input is empty", x.feed('t'), 1);
            Check.unsupported("and otherwise", () -> Sofa.run(x, "ick 9;tick 9;block 0"));
            Check.same("the failed command is kept", x.failedCommand(), 2);
            Check.same("the input is empty again", x.feed('t'), 1);
            Check.same("the railway is as before", Sofa.picture(x), Sofa.picture(Scene.rich()));
            Check.same("and the changes", x.undoCount(), 2);
        });
    }

    private void firstListed() {
        holds(FIRST_DECIDES, () -> {
            argument("the length before the number of blocks", Scene::fullBlocks, x -> x.addBlock(0));
            index("the index before the same block", Scene::rich, x -> x.link(7, 7));
            index("the index before the priority", Scene::fullTrains, x -> x.addTrain(7, 0));
            argument("the priority before the number of trains", Scene::fullTrains, x -> x.addTrain(0, 0));
            state("the number of trains before the train", Scene::fullTrains, x -> x.addTrain(0, 5));
            index("the index before the cushion", Scene::rich, x -> x.setGoal(3, 1));
            argument("the cushion before the train", Scene::rich, x -> x.setGoal(2, 6));
            argument("the link before the reservation", Scene::rich, x -> x.reserve(0, 4));
            state("the reservation before the block's", Scene::rich, x -> x.reserve(0, 1));
            argument("the form before the failing command", SofaRailway::new, x -> Sofa.run(x, "block 0;"));
        });
    }
}
