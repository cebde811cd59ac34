/** Boundary cases of the terms that tell what a text of commands is. */
final class TextCases extends Cases {
    private static final String[] KEYWORDS = {"block ", "cushion ", "link ", "train ", "goal ", "cat ", "hold ",
        "rescue ", "tick "};
    /** For each keyword what makes a command of it, ending in its last digit that is needed. */
    private static final String[] NUMBERS = {"1", "1", "10-2", "10*3", "4>5", "6", "7@8", "9", "1"};

    TextCases() {
        section("Terms");
        buffer();
        separators();
        forms();
        numbers();
        malformed();
        errorPosition();
        keywords();
    }

    private static void error(String text, int position) {
        SofaRailway x = new SofaRailway();
        Sofa.feed(x, text);
        Check.argument("\"" + text + "\"", () -> x.execute());
        Check.same("error position of \"" + text + "\"", x.errorPosition(), position);
    }

    private void buffer() {
        holds("The input buffer holds at most 60 characters.", () -> {
            SofaRailway x = new SofaRailway();
            String sixty = "block 1;block 2;block 3;block 4;block 5;block 6;block 7;tick";
            for (int i = 0; i < 60; i++) {
                Check.same("length", x.feed(sixty.charAt(i)), i + 1);
            }
            Check.state("one more", () -> x.feed(' '));
            Check.argument("without it the text ends too early", () -> x.execute());
            Check.same("its end", x.errorPosition(), 60);
            Sofa.feed(x, sixty.replace("tick", "cat0").replace("7;cat0", "7;cat 0").replace("block 1", "tick 2"));
            Check.same("sixty characters are executed", x.execute(), 8);
            Check.same("all of them", x.blockCount(), 6);
        });
    }

    private void separators() {
        holds("A text consists of one or more commands, separated by semicolons:", () -> {
            error("", 0);
            error(";", 0);
            error("tick 1;", 7);
            error("tick 1;;tick 1", 7);
            error(";tick 1", 0);
            error("tick 1,tick 1", 6);
            error("tick 1 tick 1", 6);
            error("tick 1tick 1", 6);
            error("tick 1; tick 1", 7);
            Check.same("one", Sofa.run(new SofaRailway(), "tick 1"), 1);
            Check.same("two", Sofa.run(new SofaRailway(), "tick 1;tick 1"), 2);
            String ten = "cat 0;cat 1;cat 2;cat 3;cat 4;cat 5;cat 6;cat 7;cat 8;cat 9";
            Check.same("as many as there is room for", Sofa.run(Scene.fullBlocks(), ten), 10);
        });
    }

    private void forms() {
        holds("\"block \" and a digit adds a plain block with a length, \"cushion \" and a digit a cushion; \"link \", a "
                + "number, \"-\" and a number links two blocks; \"train \", a number, \"*\" and a digit adds a train in a "
                + "block with a priority; \"goal \", a digit, \">\" and a number sets the goal of a train; \"cat \" and a "
                + "number puts a cat on a block; \"hold \", a digit, \"@\" and a number reserves a block for a train; "
                + "\"rescue \" and a digit rescues a train; \"tick \" and a number lets ticks pass.", () -> {
            eachCommandDoesItsWork();
            eachCommandAtItsEnds();
            error("block 12", 7);
            error("cushion 12", 9);
            error("link 1*2", 6);
            error("train 1-2", 7);
            error("train 1*23", 9);
            error("goal 12>3", 6);
            error("goal 1@2", 6);
            error("hold 12@3", 6);
            error("hold 1>2", 6);
            error("rescue 12", 8);
        });
    }

    private static void eachCommandDoesItsWork() {
        SofaRailway x = new SofaRailway();
        Sofa.run(x, "block 1;cushion 2;block 3");
        Check.same("blocks", x.length(0) + 10 * x.length(1) + 100 * x.length(2), 321);
        Check.yes("the second is a cushion", x.isCushion(1) && !x.isCushion(0) && !x.isCushion(2));
        Sofa.run(x, "link 0-1;link 1-2");
        Check.same("degrees", x.degree(0) + 10 * x.degree(1) + 100 * x.degree(2), 121);
        Sofa.run(x, "train 2*7;train 0*4");
        Check.same("block and priority", x.blockOf(0) * 10 + x.priority(0), 27);
        Sofa.run(x, "goal 0>1;cat 1;hold 0@1");
        Check.same("goal", x.goal(0), 1);
        Check.yes("cat", x.hasCat(1));
        Check.same("reservation", x.reservedBy(1), 0);
        Sofa.run(x, "tick 2");
        Check.same("ticks", x.ticks(), 2);
        Check.yes("derailed", x.isDerailed(0));
        Sofa.run(x, "rescue 0");
        Check.no("rescued", x.isDerailed(0));
    }

    private static void eachCommandAtItsEnds() {
        SofaRailway x = Sofa.of(1, 1, 1, 1, 1, 1, 1, 1, 1, 1, 1, 1);
        Sofa.run(x, "block 9;cushion 9");
        Check.same("the longest", x.length(12) + x.length(13), 18);
        Sofa.run(x, "link 13-0;link 12-11;link 13-12");
        Check.yes("the last block", x.areLinked(0, 13) && x.areLinked(11, 12));
        Sofa.run(x, "train 0*9;train 1*1;train 2*1;train 3*1;train 4*1");
        Sofa.run(x, "train 11*1;goal 5>13;hold 5@12;cat 12");
        Check.same("the last train's goal", x.goal(5), 13);
        Check.same("the last train's reservation", x.reservedBy(12), 5);
        Check.same("the highest priority", x.priority(0), 9);
        Sofa.run(x, "tick 50;rescue 5");
        Check.no("the last train is rescued", x.isDerailed(5));
        Check.same("the most ticks", x.ticks(), 50);
    }

    private void numbers() {
        holds("Numbers have one or two digits.", () -> {
            error("tick ", 5);
            error("tick 100", 7);
            error("tick 001", 7);
            error("cat 123", 6);
            error("link -1", 5);
            error("link 123-1", 7);
            error("link 1-", 7);
            error("link 1-123", 9);
            error("train 123*1", 8);
            error("goal 1>123", 9);
            error("hold 1@123", 9);
            error("tick +1", 5);
            error("tick -1", 5);
            SofaRailway x = Sofa.of(1, 1, 1, 1, 1, 1, 1, 1, 1, -1, -1);
            Check.same("one or two digits", Sofa.run(x, "link 0-10;link 09-8;link 00-01;train 00*1;train 8*1"), 5);
            Check.same("two digits and a 0 before", x.degree(0) * 10 + x.degree(9), 21);
            Check.same("goals and others", Sofa.run(x, "goal 0>10;goal 1>09;hold 0@01;cat 9;cat 02"), 5);
            Check.same("their blocks", x.goal(0) * 10 + x.goal(1), 109);
            Check.same("ticks", Sofa.run(x, "tick 1;tick 01;tick 10;tick 50"), 4);
            Check.same("their sum", x.ticks(), 62);
            Check.same("a well-formed number may be none of a block", Sofa.attempt(x, "cat 99"),
                    "UnsupportedOperationException");
        });
    }

    private void malformed() {
        holds("A text is malformed if it does not have this form.", () -> {
            String[] texts = {" tick 1", "tick 1 ", "tick  1", "tick1", "tick\t1", "tick 1;tock 1", "1 tick", "ticks 1",
                "undo", "save", "block a", "block", "tick 1;\n", "tick \u0661", "tick 1\u0000"};
            for (String text : texts) {
                SofaRailway x = new SofaRailway();
                Check.same("\"" + text + "\"", Sofa.attempt(x, text), "IllegalArgumentException");
                Check.same("ticks after \"" + text + "\"", x.ticks(), 0);
            }
            Check.same("but one that fails is not", Sofa.attempt(new SofaRailway(), "tick 0"),
                    "UnsupportedOperationException");
        });
    }

    private void errorPosition() {
        holds("Its error position is the index of the first character that cannot continue a well-formed text, or the "
                + "length of the text if the text ends too early.", () -> {
            for (int i = 0; i < KEYWORDS.length; i++) {
                String command = KEYWORDS[i] + NUMBERS[i];
                for (int length = 0; length < command.length(); length++) {
                    String begun = command.substring(0, length);
                    error(begun, length);
                    error(begun + "!", length);
                    error("tick 1;" + begun, length + 7);
                }
                error("tick 1;" + command + "!", command.length() + 7);
            }
            error("!!", 0);
            error("tick 1;!;!", 7);
            error("cushion 1;cusp", 13);
        });
    }

    private void keywords() {
        holds("Keywords are compared letter by letter.", () -> {
            for (int i = 0; i < KEYWORDS.length; i++) {
                String command = KEYWORDS[i] + NUMBERS[i];
                for (int at = 0; at < KEYWORDS[i].length(); at++) {
                    char letter = command.charAt(at);
                    char other = letter == ' ' ? '_' : Character.toUpperCase(letter);
                    error(command.substring(0, at) + other + command.substring(at + 1), at);
                    error(command.substring(0, at) + (char) (letter + 256) + command.substring(at + 1), at);
                }
            }
            error("tram 1*1", 3);
            error("tuck 1", 1);
            error("cut 1", 2);
            error("resume 1", 3);
            error("hole 1@1", 3);
            error("bock 1", 1);
        });
    }
}
