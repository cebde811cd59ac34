/** Boundary cases of promises 54 to 57: undo and the saved state. */
final class UndoCases extends Cases {
    UndoCases() {
        undo();
        undoCount();
        save();
        restore();
    }

    /** That many changes: in change i, i ticks pass. */
    private static SofaRailway ticked(int changes) {
        SofaRailway x = new SofaRailway();
        for (int change = 1; change <= changes; change++) {
            x.passTicks(change);
        }
        return x;
    }

    private void undo() {
        promise(54);
        holds("Undoes the latest change that is not undone.", () -> {
            SofaRailway x = ticked(10);
            int[] due = {45, 36, 28, 21, 15, 10, 6, 3};
            for (int ticks : due) {
                x.undo();
                Check.same("ticks", x.ticks(), ticks);
            }
            SofaRailway again = ticked(3);
            again.undo();
            again.passTicks(40);
            again.undo();
            Check.same("the new change", again.ticks(), 3);
            again.undo();
            Check.same("then the one before that was undone", again.ticks(), 1);
            SofaRailway wrapped = ticked(9);
            wrapped.undo();
            wrapped.passTicks(30);
            wrapped.passTicks(31);
            wrapped.undo();
            wrapped.undo();
            Check.same("behind the changes that were undone", wrapped.ticks(), 36);
        });
        holds("Returns the number of changes that can still be undone.", () -> {
            SofaRailway x = ticked(9);
            for (int left = 7; left >= 0; left--) {
                Check.same("left of nine", x.undo(), left);
            }
            Check.same("left of one", ticked(1).undo(), 0);
            Check.same("left of eight", ticked(8).undo(), 7);
        });
        holds("Throws `IllegalStateException` if there is none", () -> {
            state("a new object", SofaRailway::new, x -> x.undo());
            SofaRailway one = ticked(1);
            one.undo();
            Check.state("the only one is undone", () -> one.undo());
            SofaRailway nine = ticked(9);
            for (int change = 0; change < 8; change++) {
                nine.undo();
            }
            Check.state("eight of nine are undone", () -> nine.undo());
            Check.same("the first one stays", nine.ticks(), 1);
            SofaRailway refused = new SofaRailway();
            Check.argument("a refused change", () -> refused.passTicks(0));
            Check.state("is none", () -> refused.undo());
        });
        changesNothing(Scene::richUnchanged, x -> x.undo());
        changesNothing(SofaRailway::new, x -> x.undo());
    }

    private void undoCount() {
        promise(55);
        holds("Returns the number of changes that can be undone.", () -> {
            Check.same("none", new SofaRailway().undoCount(), 0);
            SofaRailway x = ticked(1);
            Check.same("one", x.undoCount(), 1);
            x.undo();
            Check.same("none left", x.undoCount(), 0);
            Check.state("nothing to undo", () -> x.undo());
            Check.same("still none", x.undoCount(), 0);
            SofaRailway text = Scene.rich();
            Sofa.run(text, "1;tick 2");
            Check.same("a text is one more", text.undoCount(), 3);
        });
        holds("Returns the number of changes, at most 8.", () -> {
            for (int changes = 1; changes <= 20; changes++) {
                Check.same("after " + changes, ticked(changes).undoCount(), Math.min(changes, 8));
            }
            SofaRailway x = ticked(12);
            x.undo();
            x.undo();
            x.undo();
            Check.same("three are undone", x.undoCount(), 5);
            x.passTicks(1);
            Check.same("and a new one", x.undoCount(), 6);
        });
    }

    private void save() {
        promise(56);
        holds("Saves everything that changes can change, in place of what was saved before.", () -> {
            int number = 0;
            for (Call change : ChangeCases.changes()) {
                SofaRailway x = Scene.rich();
                x.save();
                change.on(x);
                String changed = Sofa.picture(x);
                x.save();
                x.undo();
                x.restore();
                Check.same("in place of what was saved before change " + number, Sofa.picture(x), changed);
                number++;
            }
            SofaRailway waiting = Scene.jammedRing(3);
            waiting.passTicks(3);
            waiting.save();
            waiting.passTicks(4);
            waiting.restore();
            Check.same("the waits too", waiting.waits(2), 3);
            SofaRailway empty = Scene.blocks(1);
            empty.save();
            empty.undo();
            empty.save();
            empty.addBlock(1);
            empty.restore();
            Check.same("nothing in place of something", empty.blockCount(), 0);
        });
        holds("Returns the number of blocks.", () -> {
            Check.same("none", new SofaRailway().save(), 0);
            Check.same("fourteen", Scene.fullBlocks().save(), 14);
            SofaRailway x = Scene.blocks(2);
            x.save();
            x.undo();
            Check.same("not those saved before", x.save(), 1);
        });
    }

    private void restore() {
        promise(57);
        holds("Restores what was saved last, which stays saved.", () -> {
            int number = 0;
            for (Call change : ChangeCases.changes()) {
                SofaRailway x = Scene.rich();
                String saved = Sofa.picture(x);
                x.save();
                change.on(x);
                x.restore();
                Check.same("after change " + number, Sofa.picture(x), saved);
                Sofa.feed(x, "tick ");
                change.on(x);
                x.restore();
                Check.same("again after change " + number, Sofa.picture(x), saved);
                number++;
            }
            SofaRailway twice = ticked(3);
            twice.save();
            twice.restore();
            twice.restore();
            Check.same("at once again", twice.ticks(), 6);
        });
        holds("Afterwards no change can be undone.", () -> {
            SofaRailway x = ticked(9);
            x.save();
            Check.same("saving leaves them", x.undoCount(), 8);
            x.passTicks(1);
            x.restore();
            Check.same("none", x.undoCount(), 0);
            Check.state("nothing to undo", () -> x.undo());
            Check.same("the ticks stay", x.ticks(), 45);
            x.passTicks(1);
            Check.same("a change since", x.undo(), 0);
            Check.state("nothing before it", () -> x.undo());
            Check.same("as restored", x.ticks(), 45);
        });
        holds("Returns the number of blocks.", () -> {
            SofaRailway empty = new SofaRailway();
            empty.save();
            empty.addBlock(1);
            Check.same("none", empty.restore(), 0);
            SofaRailway full = Scene.fullBlocks();
            full.save();
            full.undo();
            Check.same("fourteen", full.restore(), 14);
        });
        holds("Throws `IllegalStateException` if nothing was saved", () -> {
            state("a new object", SofaRailway::new, x -> x.restore());
            state("after changes", Scene::fullTrains, x -> x.restore());
            SofaRailway x = new SofaRailway();
            x.save();
            Check.same("nothing is saved, but saved", x.restore(), 0);
        });
        changesNothing(Scene::unsaved, x -> x.restore());
        changesNothing(SofaRailway::new, x -> x.restore());
    }
}
