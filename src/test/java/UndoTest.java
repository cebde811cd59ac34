/** Promises 54 to 57: undo and the saved state. */
public final class UndoTest {
    public static void main(String[] args) {
        promise54Limit();
        promise54AfterNewChanges();
        promise54Waits();
        promise54KeepsInput();
        promise55UndoCount();
        promise56And57SaveAndRestore();
        Check.finish();
    }

    private static void promise54Limit() {
        SofaRailway x = new SofaRailway();
        Check.state("54 none", () -> x.undo());
        for (int block = 1; block <= 9; block++) {
            x.addBlock(block);
            Check.same("55 at most 8", x.undoCount(), Math.min(block, 8));
        }
        for (int left = 7; left >= 0; left--) {
            Check.same("54 left", x.undo(), left);
            Check.same("54 blocks", x.blockCount(), left + 1);
            Check.same("55 left", x.undoCount(), left);
        }
        Check.state("54 no more than 8", () -> x.undo());
        Check.same("54 the first change stays", x.blockCount(), 1);
        Check.same("54 its length", x.length(0), 1);
    }

    private static void promise54AfterNewChanges() {
        SofaRailway x = new SofaRailway();
        for (int tick = 1; tick <= 12; tick++) {
            x.passTicks(tick);
        }
        x.undo();
        x.undo();
        x.undo();
        Check.same("55 five left", x.undoCount(), 5);
        Check.same("54 nine changes are not undone", x.ticks(), 45);
        x.passTicks(50);
        Check.same("55 six", x.undoCount(), 6);
        Check.same("54 undoes the new change", x.undo(), 5);
        Check.same("54 as before it", x.ticks(), 45);
        x.passTicks(1);
        x.passTicks(2);
        x.passTicks(3);
        x.passTicks(4);
        Check.same("55 eight", x.undoCount(), 8);
        int[] due = {51, 48, 46, 45, 36, 28, 21, 15};
        for (int i = 0; i < due.length; i++) {
            Check.same("54 left", x.undo(), 7 - i);
            Check.same("54 ticks", x.ticks(), due[i]);
        }
        Check.state("54 the rest can't be undone", () -> x.undo());
    }

    private static void promise54KeepsInput() {
        SofaRailway x = Sofa.of(1, 2);
        Sofa.feed(x, "bloc");
        x.undo();
        Check.same("54 the input stays", x.feed('k'), 5);
        x.save();
        x.restore();
        Check.same("57 the input stays", x.feed(' '), 6);
        x.feed('3');
        Check.same("54 and is executed", x.execute(), 1);
        Check.same("54 into a block", x.length(1), 3);
    }

    private static void promise55UndoCount() {
        SofaRailway x = Sofa.of(1, 2);
        Check.same("55 two", x.undoCount(), 2);
        Check.argument("55 refused", () -> x.addBlock(0));
        x.blockCount();
        x.writeSignals();
        x.feed('a');
        x.save();
        x.isConsistent();
        Check.argument("55 malformed", () -> x.execute());
        Check.same("55 still two", x.undoCount(), 2);
        Check.same("55 undo after a refused call", x.undo(), 1);
        Check.same("55 one block left", x.blockCount(), 1);
    }

    private static void promise56And57SaveAndRestore() {
        SofaRailway x = Sofa.of(1, 2, 3);
        Check.state("57 nothing saved", () -> x.restore());
        Check.same("57 keeps the changes", x.undoCount(), 3);
        Check.same("56 blocks", x.save(), 3);
        Check.same("56 keeps the changes", x.undoCount(), 3);
        x.addBlock(4);
        x.addBlock(5);
        Check.same("57 blocks", x.restore(), 3);
        Check.same("57 the blocks are back", x.blockCount(), 3);
        Check.same("57 no change left", x.undoCount(), 0);
        Check.state("57 nothing to undo", () -> x.undo());
        x.addBlock(6);
        Check.same("57 a change after it", x.undo(), 0);
        Check.same("57 is undone", x.blockCount(), 3);
        x.addBlock(7);
        Check.same("57 stays saved", x.restore(), 3);
        x.addBlock(8);
        Check.same("56 in place of it", x.save(), 4);
        x.undo();
        Check.same("57 undo does not matter", x.restore(), 4);
        Check.same("57 the last block", x.length(3), 8);
        promise57AnotherRailway();
        SofaRailway empty = new SofaRailway();
        Check.same("56 an empty one", empty.save(), 0);
        empty.addBlock(1);
        Check.same("57 an empty one", empty.restore(), 0);
    }

    /** What is there instead of the saved blocks and trains has the same indices but is otherwise unlike them. */
    private static void promise57AnotherRailway() {
        SofaRailway x = new SofaRailway();
        x.addBlock(1);
        x.addBlock(2);
        x.addTrain(1, 3);
        String before = Sofa.picture(x);
        x.save();
        x.undo();
        x.undo();
        x.undo();
        x.addCushion(9);
        x.addCushion(8);
        x.link(0, 1);
        x.addTrain(0, 7);
        x.setGoal(0, 1);
        x.passTicks(2);
        x.putCat(0);
        x.restore();
        Check.same("57 another railway", Sofa.picture(x), before);
    }

    private static void promise54Waits() {
        SofaRailway x = Sofa.line(1, 1, -1);
        x.addTrain(0, 5);
        x.addTrain(1, 5);
        x.setGoal(0, 2);
        x.passTicks(3);
        x.passTicks(4);
        Check.same("54 seven waits", x.waits(0), 7);
        x.undo();
        Check.same("54 three waits", x.waits(0), 3);
        x.save();
        x.undo();
        Check.same("54 no waits", x.waits(0), 0);
        x.restore();
        Check.same("57 three waits", x.waits(0), 3);
    }
}
