import java.util.NoSuchElementException;

/** Railways for the tests, and texts of what a railway shows. */
final class Sofa {
    private Sofa() {
    }

    /** Plain blocks for lengths above 0, cushions for lengths below 0. */
    static SofaRailway of(int... lengths) {
        SofaRailway x = new SofaRailway();
        for (int length : lengths) {
            if (length > 0) {
                x.addBlock(length);
            } else {
                x.addCushion(-length);
            }
        }
        return x;
    }

    /** The same, and each block is linked with the one before it. */
    static SofaRailway line(int... lengths) {
        SofaRailway x = of(lengths);
        for (int block = 1; block < lengths.length; block++) {
            x.link(block - 1, block);
        }
        return x;
    }

    static int run(SofaRailway x, String text) {
        feed(x, text);
        return x.execute();
    }

    static void feed(SofaRailway x, String text) {
        for (int i = 0; i < text.length(); i++) {
            x.feed(text.charAt(i));
        }
    }

    static String output(SofaRailway x, int length) {
        StringBuilder text = new StringBuilder();
        for (int i = 0; i < length; i++) {
            text.append(x.outputCharacter(i));
        }
        return text.toString();
    }

    /** Everything that changes can change, as far as queries show it without writing an output. */
    static String picture(SofaRailway x) {
        StringBuilder text = new StringBuilder();
        for (int block = 0; block < x.blockCount(); block++) {
            text.append(x.length(block)).append(x.isCushion(block) ? 'C' : 'B').append(x.hasCat(block) ? 'c' : '-');
            for (int other = 0; other < block; other++) {
                text.append(x.areLinked(block, other) ? '1' : '0');
            }
            text.append(x.signal(block)).append(holder(x, block)).append(' ');
        }
        for (int train = 0; train < x.trainCount(); train++) {
            text.append('T').append(x.blockOf(train)).append('p').append(x.priority(train))
                    .append('+').append(x.remainingTicks(train)).append('>').append(goal(x, train))
                    .append('w').append(x.waits(train)).append(x.isDerailed(train) ? "! " : " ");
        }
        return text.append(x.ticks()).append('/').append(x.arrivals()).toString();
    }

    private static String holder(SofaRailway x, int block) {
        try {
            return "r" + x.reservedBy(block);
        } catch (NoSuchElementException e) {
            return "";
        }
    }

    private static String goal(SofaRailway x, int train) {
        try {
            return "" + x.goal(train);
        } catch (NoSuchElementException e) {
            return "none";
        }
    }
}
