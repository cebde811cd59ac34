import java.util.NoSuchElementException;

/** Railways for the tests, and texts of what a railway shows. */
final class Sofa {
    private Sofa() {
    }

    /** Plain blocks for lengths above 0, cushions for lengths below 0. */
    static SofaRailway of(int... lengths) {
        SofaRailway x = new SofaRailway();
        for (int length : lengths) {
            if (length > 0) {
                x.addBlock(length);
            } else {
                x.addCushion(-length);
            }
        }
        return x;
    }

    /** The same, and each block is linked with the one before it. */
    static SofaRailway line(int... lengths) {
        SofaRailway x = of(lengths);
        for (int block = 1; block < lengths.length; block++) {
            x.link(block - 1, block);
        }
        return x;
    }

    /** Links the first with the second, the third with the fourth, and so on. */
    static void links(SofaRailway x, int... blocks) {
        for (int i = 0; i + 1 < blocks.length; i += 2) {
            x.link(blocks[i], blocks[i + 1]);
        }
    }

    static int run(SofaRailway x, String text) {
        feed(x, text);
        return x.execute();
    }

    static void feed(SofaRailway x, String text) {
        for (int i = 0; i < text.length(); i++) {
            x.feed(text.charAt(i));
        }
    }

    /** Returns what execute answered, or the name of the exception that it threw. */
    static String attempt(SofaRailway x, String text) {
        feed(x, text);
        return outcome(x::execute);
    }

    static String output(SofaRailway x, int length) {
        StringBuilder text = new StringBuilder();
        for (int i = 0; i < length; i++) {
            text.append(x.outputCharacter(i));
        }
        return text.toString();
    }

    /** Everything that changes can change, as far as queries show it without writing an output. */
    static String picture(SofaRailway x) {
        StringBuilder text = new StringBuilder();
        int blocks = x.blockCount();
        int trains = x.trainCount();
        for (int block = 0; block < blocks; block++) {
            text.append(x.length(block)).append(x.isCushion(block) ? 'C' : 'B').append(x.hasCat(block) ? 'c' : '-');
            boolean linked = x.degree(block) > 0;
            for (int other = 0; linked && other < block; other++) {
                text.append(x.areLinked(block, other) ? '1' : '0');
            }
            text.append(x.signal(block)).append(holder(x, block)).append(' ');
        }
        for (int train = 0; train < trains; train++) {
            text.append('T').append(x.blockOf(train)).append('p').append(x.priority(train))
                    .append('+').append(x.remainingTicks(train)).append('>').append(goal(x, train))
                    .append('w').append(x.waits(train)).append(x.isDerailed(train) ? "! " : " ");
        }
        return text.append(x.ticks()).append('/').append(x.arrivals()).toString();
    }

    private interface Question {
        int ask();
    }

    private static String outcome(Question question) {
        try {
            return "" + question.ask();
        } catch (RuntimeException e) {
            return e.getClass().getSimpleName();
        }
    }

    /**
     * Everything that calls can show: what was kept, the changes that can be undone, the input, the output, the
     * railway, and what was saved. The railway is not the same afterwards. Calls that throw come as late as they can,
     * since their own effects, if they had some, would hide others.
     */
    static String everything(SofaRailway x) {
        StringBuilder text = new StringBuilder();
        text.append("kept ").append(outcome(x::errorPosition)).append(' ').append(outcome(x::failedCommand));
        text.append("\n  undo ").append(x.undoCount());
        text.append("\n  input ").append(input(x));
        text.append("\n  output ").append(wholeOutput(x));
        text.append("\n  railway ").append(picture(x));
        for (int left = x.undoCount(); left > 0; left--) {
            text.append("\n  undone ").append(x.undo()).append(' ').append(picture(x));
        }
        text.append("\n  restored ").append(outcome(x::restore)).append(' ').append(picture(x));
        return text.toString();
    }

    /** What the input and one more digit do, which is undone if it is a change. */
    private static String input(SofaRailway x) {
        String text = outcome(() -> x.feed('9')) + ' ' + outcome(x::execute) + ' ' + outcome(x::errorPosition)
                + ' ' + x.ticks();
        boolean changed = text.split(" ")[1].matches("[0-9]+");
        return changed ? text + " undone " + x.undo() : text;
    }

    private static String wholeOutput(SofaRailway x) {
        StringBuilder text = new StringBuilder();
        try {
            for (int i = 0; i < 60; i++) {
                text.append(x.outputCharacter(i));
            }
        } catch (IndexOutOfBoundsException e) {
            return text.append('.').toString();
        }
        return text.toString();
    }

    private static String holder(SofaRailway x, int block) {
        try {
            return "r" + x.reservedBy(block);
        } catch (NoSuchElementException e) {
            return "";
        }
    }

    private static String goal(SofaRailway x, int train) {
        try {
            return "" + x.goal(train);
        } catch (NoSuchElementException e) {
            return "none";
        }
    }
}
