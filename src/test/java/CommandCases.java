/** Boundary cases of promises 50 to 53: the input buffer and the commands. */
final class CommandCases extends Cases {
    private static final String SIXTY = "cat 0;cat 1;cat 2;cat 3;cat 4;cat 5;cat 6;cat 7;cat 8;cat 10";

    CommandCases() {
        feed();
        execute();
        executeMalformed();
        executeFailing();
        errorPosition();
        failedCommand();
    }

    private static SofaRailway sixtyFed() {
        SofaRailway x = Scene.blocks(11);
        x.save();
        x.restore();
        Sofa.feed(x, SIXTY);
        return x;
    }

    private void feed() {
        promise(50);
        holds("Appends a character to the input buffer.", () -> {
            SofaRailway x = Scene.rich();
            x.feed('1');
            x.feed('2');
            x.execute();
            Check.same("behind the text that is begun", x.ticks(), 13);
            for (char character : new char[] {0, ' ', '\n', 127, 128, 255, 256, '\ud800', '\uffff'}) {
                SofaRailway any = new SofaRailway();
                Check.same("any character", any.feed(character), 1);
                Check.argument("and not a text", () -> any.execute());
            }
        });
        holds("Returns the new length of the input buffer.", () -> {
            SofaRailway x = new SofaRailway();
            for (int length = 1; length <= 60; length++) {
                Check.same("length", x.feed('a'), length);
            }
            Check.same("behind a text that is begun", Scene.rich().feed('1'), 6);
        });
        holds("Throws `IllegalStateException` if the input buffer holds 60 characters", () -> {
            state("character 61", CommandCases::sixtyFed, x -> x.feed('1'));
            state("character 61, whatever it is", CommandCases::sixtyFed, x -> x.feed(';'));
            SofaRailway x = sixtyFed();
            Check.state("character 61, twice", () -> {
                try {
                    x.feed('0');
                } catch (IllegalStateException e) {
                    x.feed('0');
                }
            });
            Check.same("the first 60 are executed", x.execute(), 10);
            Check.same("then there is room", x.feed('0'), 1);
        });
        changesNothing(Scene::richFed, x -> x.feed('1'), x -> x.feed((char) 0));
        holds(CHANGES_NOTHING, () -> {
            SofaRailway x = Scene.richFed();
            Check.state("full", () -> x.feed('1'));
            outputOfRich("then", x);
        });
    }

    private void execute() {
        promise(51);
        holds("Executes the text in the input buffer, command by command, either all commands or none.", () -> {
            SofaRailway x = new SofaRailway();
            Check.same("each on what is left by the one before",
                    Sofa.run(x, "block 1;cushion 1;link 1-0;train 0*1;goal 0>1;tick 1"), 6);
            Check.same("all", x.arrivals(), 1);
            String before = Sofa.picture(x);
            Check.same("the last one fails", Sofa.attempt(x, "cat 0;block 9;link 0-2;tick 1;rescue 0"),
                    "UnsupportedOperationException");
            Check.same("none", Sofa.picture(x), before);
            Check.same("the last one is malformed", Sofa.attempt(x, "cat 0;block 9;link 0-2;tick 1;rescue"),
                    "IllegalArgumentException");
            Check.same("none of them", Sofa.picture(x), before);
        });
        holds("The input buffer is empty afterwards, also if an exception is thrown.", () -> {
            SofaRailway x = new SofaRailway();
            Sofa.run(x, "block 1");
            Check.same("after success", x.feed('!'), 1);
            Sofa.attempt(x, "!");
            Check.same("after a malformed text", x.feed('b'), 1);
            Sofa.attempt(x, "lock 0");
            Check.same("after a failed command", x.feed('b'), 1);
            Check.same("what is fed then is all", Sofa.run(x, "lock 1"), 1);
            SofaRailway full = sixtyFed();
            full.execute();
            Check.argument("empty after 60 characters", () -> full.execute());
            Check.same("its error position", full.errorPosition(), 0);
        });
        holds("Returns the number of commands.", () -> {
            Check.same("one", Sofa.run(new SofaRailway(), "tick 1"), 1);
            Check.same("two", Sofa.run(new SofaRailway(), "tick 1;tick 1"), 2);
            Check.same("ten", sixtyFed().execute(), 10);
            Check.same("not of the call before", Sofa.run(Scene.rich(), "1"), 1);
        });
    }

    private void executeMalformed() {
        holds("Throws `IllegalArgumentException` if the text is malformed; its error position is kept", () -> {
            argument("an empty text", SofaRailway::new, x -> x.execute());
            argument("too short", Scene::rich, x -> x.execute());
            argument("too long", Scene::rich, x -> Sofa.run(x, "123"));
            argument("60 characters", () -> {
                SofaRailway x = sixtyFed();
                x.execute();
                Sofa.feed(x, SIXTY.replace('1', '!'));
                return x;
            }, x -> x.execute());
            SofaRailway x = Scene.rich();
            Sofa.attempt(x, "123");
            Check.same("kept", x.errorPosition(), 7);
            Sofa.attempt(x, "");
            Check.same("kept in place of it", x.errorPosition(), 0);
        });
        holds(CHANGES_NOTHING, () -> {
            String due = Sofa.everything(emptied());
            SofaRailway malformed = Scene.rich();
            Check.argument("malformed", () -> Sofa.run(malformed, "!"));
            Check.same("all but the input, the error position being the same", Sofa.everything(malformed), due);
            SofaRailway failed = Scene.rich();
            Check.unsupported("failing", () -> Sofa.run(failed, "9;tick 0"));
            Check.same("all but the input, the failed command being the same", Sofa.everything(failed), due);
            SofaRailway late = Scene.rich();
            Check.argument("malformed late", () -> Sofa.run(late, "9;cat 1;tick"));
            Check.same("the railway", Sofa.picture(late), Sofa.picture(Scene.rich()));
            outputOfRich("after a malformed text", late);
            SofaRailway lateFailed = Scene.rich();
            Check.unsupported("failing late", () -> Sofa.run(lateFailed, "9;cat 1;cat 1"));
            outputOfRich("after a failed command", lateFailed);
        });
        holds(FIRST_DECIDES, () -> {
            SofaRailway x = new SofaRailway();
            Check.argument("a command would fail, but the text behind it is malformed", () -> Sofa.run(x, "cat 0;"));
            Check.missing("no failed command", () -> x.failedCommand());
            Check.same("its error position", x.errorPosition(), 6);
        });
    }

    /** The rich railway without a text that is begun. */
    private static SofaRailway emptied() {
        SofaRailway x = Scene.rich();
        Sofa.run(x, "9");
        x.undo();
        return x;
    }

    private static void fails(SofaRailway x, String text, int command) {
        Sofa.feed(x, text);
        Check.unsupported(text, () -> x.execute());
        Check.same("failed command of " + text, x.failedCommand(), command);
    }

    private static SofaRailway smallLine() {
        SofaRailway x = Sofa.line(-1, 1, -1, 1);
        x.addTrain(0, 5);
        return x;
    }

    private void executeFailing() {
        holds("Throws `UnsupportedOperationException` if a command throws an exception; the index of the command, from "
                + "0, is kept as the failed command", () -> {
            String[] texts = {"block 0", "cushion 0", "link 0-0", "link 0-1", "link 0-4", "link 4-0", "train 4*1",
                "train 1*0", "train 0*1", "goal 1>0", "goal 0>4", "goal 0>1", "goal 0>0", "cat 4", "cat 0", "hold 1@1",
                "hold 0@4", "hold 0@2", "rescue 1", "rescue 0", "tick 0", "tick 51", "tick 00", "tick 99"};
            for (String text : texts) {
                fails(smallLine(), text, 0);
                fails(smallLine(), "tick 1;tick 1;" + text, 2);
            }
            SofaRailway full = Scene.fullBlocks();
            fails(full, "tick 1;block 1", 1);
            fails(full, "cushion 1", 0);
            fails(Scene.fullTrains(), "train 6*1", 0);
        });
        holds("Throws `UnsupportedOperationException` if a command throws an exception; the index of the command, from "
                + "0, is kept as the failed command", () -> {
            SofaRailway x = Scene.fullBlocks();
            fails(x, "cat 0;cat 1;cat 2;cat 3;cat 4;cat 5;cat 6;cat 7;cat 8;cat 8", 9);
            fails(x, "cat 0;cat 0;cat 0", 1);
            fails(x, "link 0-1;train 0*9;hold 0@1;hold 0@1", 3);
            fails(x, "tick 50;tick 50;tick 51;tick 0", 2);
            Check.same("and nothing has happened", x.ticks() + x.trainCount() + x.degree(0), 0);
            Check.same("nor is there a change", x.undoCount(), 8);
        });
    }

    private void errorPosition() {
        promise(52);
        holds("Returns the error position that was kept last.", () -> {
            SofaRailway x = new SofaRailway();
            Sofa.attempt(x, "block 1 ");
            Sofa.attempt(x, "block");
            Check.same("the last one", x.errorPosition(), 5);
            Check.same("asked twice", x.errorPosition(), 5);
            Sofa.run(x, "block 1");
            Check.same("after success", x.errorPosition(), 5);
            Sofa.attempt(x, "block 1;block 0");
            Check.same("after a failed command", x.errorPosition(), 5);
        });
        holds("Returns the error position.", () -> {
            SofaRailway x = new SofaRailway();
            Sofa.attempt(x, "");
            Check.same("the smallest", x.errorPosition(), 0);
            Sofa.attempt(x, SIXTY.substring(0, 58) + "tc");
            Check.same("nearly the largest", x.errorPosition(), 58);
            Sofa.attempt(x, SIXTY.substring(0, 56) + " 11;");
            Check.same("before the last character", x.errorPosition(), 56);
            Sofa.attempt(x, "block 1;" + SIXTY.substring(0, 52));
            Check.same("the largest", x.errorPosition(), 60);
        });
        holds("Throws `NoSuchElementException` if none was kept", () -> {
            missing("a new object", SofaRailway::new, x -> x.errorPosition());
            SofaRailway x = new SofaRailway();
            Sofa.run(x, "block 1");
            Check.missing("after success", () -> x.errorPosition());
            Sofa.attempt(x, "block 0");
            Check.missing("after a failed command", () -> x.errorPosition());
        });
        changesNothing(Scene::richUnkept, x -> x.errorPosition());
        holds(CHANGES_NOTHING, () -> {
            SofaRailway x = new SofaRailway();
            Sofa.attempt(x, "tick 1;tick 0");
            Check.missing("no error position", () -> x.errorPosition());
            Check.same("the failed command", x.failedCommand(), 1);
            SofaRailway rich = Scene.richUnkept();
            Check.missing("no error position in a used one", () -> rich.errorPosition());
            Check.same("the changes", rich.undoCount(), 2);
            outputOfRich("then", rich);
            inputOfRich("then", rich);
        });
    }

    private void failedCommand() {
        promise(53);
        holds("Returns the failed command that was kept last.", () -> {
            SofaRailway x = new SofaRailway();
            Sofa.attempt(x, "block 1;block 0");
            Sofa.attempt(x, "block 1;block 1;block 0");
            Check.same("the last one", x.failedCommand(), 2);
            Check.same("asked twice", x.failedCommand(), 2);
            Sofa.run(x, "block 1");
            Check.same("after success", x.failedCommand(), 2);
            Sofa.attempt(x, "block");
            Check.same("after a malformed text", x.failedCommand(), 2);
        });
        holds("Returns the index of the command.", () -> {
            SofaRailway x = Scene.blocks(10);
            Sofa.attempt(x, SIXTY);
            Check.same("the largest", x.failedCommand(), 9);
            Sofa.attempt(x, "cat 10;cat 0");
            Check.same("the smallest", x.failedCommand(), 0);
        });
        holds("Throws `NoSuchElementException` if none was kept", () -> {
            missing("a new object", SofaRailway::new, x -> x.failedCommand());
            SofaRailway x = new SofaRailway();
            Sofa.run(x, "block 1");
            Check.missing("after success", () -> x.failedCommand());
            Sofa.attempt(x, "block");
            Check.missing("after a malformed text", () -> x.failedCommand());
        });
        changesNothing(Scene::richUnkept, x -> x.failedCommand());
        holds(CHANGES_NOTHING, () -> {
            SofaRailway x = new SofaRailway();
            Sofa.attempt(x, "tick");
            Check.missing("no failed command", () -> x.failedCommand());
            Check.same("the error position", x.errorPosition(), 4);
            SofaRailway rich = Scene.richUnkept();
            Check.missing("no failed command in a used one", () -> rich.failedCommand());
            Check.same("the changes", rich.undoCount(), 2);
            outputOfRich("then", rich);
            inputOfRich("then", rich);
        });
    }
}
