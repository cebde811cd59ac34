/** Promises 50 to 53: the input buffer and the commands. */
public final class CommandsTest {
    public static void main(String[] args) {
        promise50Feed();
        promise51EachCommand();
        promise51AllOrNone();
        promise51LongTexts();
        promise51FailingCommands();
        promise52ErrorPositions();
        promise52ErrorPosition();
        promise53FailedCommand();
        Check.finish();
    }

    private static void promise50Feed() {
        SofaRailway x = new SofaRailway();
        for (int length = 1; length <= 60; length++) {
            Check.same("50 length", x.feed((char) (length * 1000)), length);
        }
        Check.state("50 full", () -> x.feed('a'));
        Check.state("50 full for any character", () -> x.feed((char) 0));
        Check.argument("50 malformed", () -> x.execute());
        Check.same("50 empty after execute", x.feed('\uffff'), 1);
        SofaRailway y = new SofaRailway();
        Sofa.run(y, "block 2");
        Check.same("50 empty after success", y.feed(';'), 1);
        Check.argument("50 only a semicolon", () -> y.execute());
        Sofa.feed(y, "block 0");
        Check.unsupported("50 failing", () -> y.execute());
        Check.same("50 empty after failure", y.feed('b'), 1);
    }

    private static void promise51EachCommand() {
        SofaRailway x = new SofaRailway();
        Check.same("51 blocks", Sofa.run(x, "block 1;cushion 4;block 3;cushion 2"), 4);
        Check.same("51 block length", x.length(2), 3);
        Check.no("51 block", x.isCushion(2));
        Check.same("51 cushion length", x.length(1), 4);
        Check.yes("51 cushion", x.isCushion(1));
        Check.same("51 links", Sofa.run(x, "link 0-1;link 02-1;link 2-03"), 3);
        Check.yes("51 link", x.areLinked(0, 1) && x.areLinked(2, 1) && x.areLinked(2, 3));
        Check.same("51 trains", Sofa.run(x, "train 0*7;train 03*2"), 2);
        Check.same("51 train block", x.blockOf(1), 3);
        Check.same("51 train priority", x.priority(1), 2);
        Check.same("51 goal", Sofa.run(x, "goal 0>1"), 1);
        Check.same("51 goal set", x.goal(0), 1);
        Check.same("51 cat", Sofa.run(x, "cat 1"), 1);
        Check.yes("51 cat put", x.hasCat(1));
        Check.same("51 hold", Sofa.run(x, "hold 1@2"), 1);
        Check.same("51 held", x.reservedBy(2), 1);
        Check.same("51 tick", Sofa.run(x, "tick 03"), 1);
        Check.same("51 ticked", x.ticks(), 3);
        Check.yes("51 derailed", x.isDerailed(0));
        Check.same("51 rescue", Sofa.run(x, "rescue 0"), 1);
        Check.no("51 rescued", x.isDerailed(0));
        Check.same("51 two digits", Sofa.run(x, "tick 12"), 1);
        Check.same("51 twelve ticks", x.ticks(), 15);
        Check.same("51 text changes count once", x.undoCount(), 8);
    }

    private static void promise51AllOrNone() {
        SofaRailway x = new SofaRailway();
        x.addBlock(1);
        x.addTrain(0, 5);
        String before = Sofa.picture(x);
        Sofa.feed(x, "block 2;link 0-1;cushion 3;link 1-2;goal 0>2;tick 1;cat 1");
        Check.unsupported("51 fails", () -> x.execute());
        Check.same("51 none", Sofa.picture(x), before);
        Check.same("51 failed command", x.failedCommand(), 6);
        Check.same("51 no change", x.undoCount(), 2);
        Sofa.feed(x, "block 2;link 0-1;cushion 3;link 1-2;goal 0>2;tick 1;cat x");
        Check.argument("51 malformed", () -> x.execute());
        Check.same("51 none of it", Sofa.picture(x), before);
        Check.same("51 still no change", x.undoCount(), 2);
        Check.same("51 all", Sofa.run(x, "block 2;link 0-1;cushion 3;link 1-2;goal 0>2;tick 1"), 6);
        Check.same("51 one change", x.undoCount(), 3);
        Check.same("51 undone at once", x.undo(), 2);
        Check.same("51 as before", Sofa.picture(x), before);
    }

    private static void promise51LongTexts() {
        SofaRailway x = new SofaRailway();
        Sofa.run(x, "block 1;block 1;block 1;block 1;block 1;block 1;block 1");
        Check.same("51 ten commands", Sofa.run(x, "cat 0;cat 1;cat 2;cat 3;cat 4;cat 5;cat 6;tick 1;tick 1"), 9);
        SofaRailway y = Sofa.of(1, 1, 1, 1, 1, 1, 1, 1, 1, 1);
        Check.same("51 the most", Sofa.run(y, "cat 0;cat 1;cat 2;cat 3;cat 4;cat 5;cat 6;cat 7;cat 8;cat 9"), 10);
        Check.yes("51 the last one too", y.hasCat(9));
        SofaRailway z = Sofa.of(1, 1, 1, 1, 1, 1, 1, 1, 1, 1, 1);
        String sixty = "cat 0;cat 1;cat 2;cat 3;cat 4;cat 5;cat 6;cat 7;cat 8;cat 10";
        Check.same("51 sixty characters", sixty.length(), 60);
        Check.same("51 all of them", Sofa.run(z, sixty), 10);
        Check.yes("51 the last number", z.hasCat(10));
        Check.no("51 not another one", z.hasCat(1) && z.hasCat(9));
    }

    private static void fails(String text, int command) {
        SofaRailway x = Sofa.line(-1, 1, -1, 1);
        x.addTrain(0, 5);
        String before = Sofa.picture(x);
        Sofa.feed(x, text);
        Check.unsupported("51 " + text, () -> x.execute());
        Check.same("53 " + text, x.failedCommand(), command);
        Check.same("51 nothing of " + text, Sofa.picture(x), before);
    }

    private static void promise51FailingCommands() {
        fails("block 0", 0);
        fails("cushion 0", 0);
        fails("link 0-1", 0);
        fails("link 2-2", 0);
        fails("link 0-99", 0);
        fails("train 0*5", 0);
        fails("train 1*0", 0);
        fails("train 14*1", 0);
        fails("goal 0>1", 0);
        fails("goal 0>0", 0);
        fails("goal 1>2", 0);
        fails("cat 0", 0);
        fails("cat 4", 0);
        fails("hold 0@2", 0);
        fails("hold 9@1", 0);
        fails("rescue 0", 0);
        fails("rescue 9", 0);
        fails("tick 0", 0);
        fails("tick 00", 0);
        fails("tick 51", 0);
        fails("tick 99", 0);
        fails("tick 50;tick 51", 1);
        fails("cat 1;cat 3;cat 1;cat 2", 2);
        Check.same("51 the most ticks", Sofa.run(new SofaRailway(), "tick 50"), 1);
        fails("goal 0>2;tick 5;goal 0>2", 2);
    }

    private static void error(String text, int position) {
        SofaRailway x = new SofaRailway();
        Sofa.feed(x, text);
        Check.argument("51 malformed: " + text, () -> x.execute());
        Check.same("52 " + text, x.errorPosition(), position);
        Check.same("51 nothing of it: " + text, x.blockCount() + x.ticks(), 0);
    }

    private static void promise52ErrorPositions() {
        error("", 0);
        error(";", 0);
        error(" block 1", 0);
        error("x", 0);
        error("Block 1", 0);
        error("b", 1);
        error("bx", 1);
        error("bloCk 1", 3);
        error("block", 5);
        error("block1", 5);
        error("block ", 6);
        error("block  1", 6);
        error("block x", 6);
        error("block 12", 7);
        error("block 1 ", 7);
        error("block 1;", 8);
        error("block 1;;", 8);
        error("block 1; block 1", 8);
        error("block 1,block 1", 7);
        error("c", 1);
        error("cx", 1);
        error("ca", 2);
        error("cu", 2);
        error("cus 1", 3);
        error("cushion -", 8);
        error("cushion 11", 9);
        error("cat", 3);
        error("cats", 3);
        error("cat 123", 6);
        error("cat 1-", 5);
        error("cat ;", 4);
        error("link 1", 6);
        error("link 12", 7);
        error("link 123", 7);
        error("link 1*2", 6);
        error("link 1-", 7);
        error("link 12-;", 8);
        error("link 12-345", 10);
        error("link 1-2-3", 8);
        error("link -", 5);
        error("t", 1);
        error("to", 1);
        error("tr", 2);
        error("ti", 2);
        error("train 1", 7);
        error("train 1-2", 7);
        error("train 12*", 9);
        error("train 12*12", 10);
        error("goal 12>1", 6);
        error("goal 1>", 7);
        error("goal 1>123", 9);
        error("goal >", 5);
        error("hold 1", 6);
        error("hold 12@1", 6);
        error("hold 1@x", 7);
        error("hold 1@123", 9);
        error("rescue 12", 8);
        error("rescue x", 7);
        error("resume", 3);
        error("tick -1", 5);
        error("tick 100", 7);
        error("tick 5;tick 5;tick", 18);
        error("tick 5;tick 5;tock", 15);
        error("tick \u0665", 5);
        error("tick 5\uff1b", 6);
        error("undo", 0);
        error("block 1;block 1;block 1;block 1;block 1;block 1;block 1;tick", 60);
    }

    private static void promise52ErrorPosition() {
        SofaRailway x = new SofaRailway();
        Check.missing("52 none", () -> x.errorPosition());
        Sofa.run(x, "block 1");
        Check.missing("52 none after success", () -> x.errorPosition());
        Sofa.feed(x, "block 0");
        Check.unsupported("52 failing", () -> x.execute());
        Check.missing("52 none after a failed command", () -> x.errorPosition());
        Sofa.feed(x, "bla");
        Check.argument("52 malformed", () -> x.execute());
        Check.same("52 position", x.errorPosition(), 2);
        Sofa.run(x, "block 1");
        Check.same("52 kept after success", x.errorPosition(), 2);
        x.save();
        Sofa.feed(x, "tick 5 ");
        Check.argument("52 malformed again", () -> x.execute());
        Check.same("52 the last one", x.errorPosition(), 6);
        x.undo();
        Check.same("52 not undone", x.errorPosition(), 6);
        x.restore();
        Check.same("52 not restored", x.errorPosition(), 6);
        Check.argument("52 an empty text", () -> x.execute());
        Check.same("52 position 0", x.errorPosition(), 0);
    }

    private static void promise53FailedCommand() {
        SofaRailway x = new SofaRailway();
        Check.missing("53 none", () -> x.failedCommand());
        Sofa.feed(x, "bla");
        Check.argument("53 malformed", () -> x.execute());
        Check.missing("53 none after a malformed text", () -> x.failedCommand());
        x.addBlock(1);
        Sofa.feed(x, "cat 0;block 2;cat 0");
        Check.unsupported("53 failing", () -> x.execute());
        Check.same("53 third command", x.failedCommand(), 2);
        Check.same("53 error position is another thing", x.errorPosition(), 2);
        Sofa.run(x, "cat 0");
        x.save();
        Check.same("53 kept after success", x.failedCommand(), 2);
        Sofa.feed(x, "block 2;cat 0");
        Check.unsupported("53 failing again", () -> x.execute());
        x.undo();
        Check.same("53 not undone", x.failedCommand(), 1);
        x.restore();
        Check.same("53 not restored", x.failedCommand(), 1);
        Sofa.feed(x, "cat 0");
        Check.unsupported("53 failing once more", () -> x.execute());
        Check.same("53 first command", x.failedCommand(), 0);
    }
}
