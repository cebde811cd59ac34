/** Promises 1 to 16: a new object, and the blocks. */
public final class BlocksTest {
    public static void main(String[] args) {
        promise1NewObject();
        promise2And3AddBlockAndCushion();
        promise4Link();
        promise5Unlink();
        promise6PutCat();
        promise7RemoveCat();
        promise8BlockCount();
        promise9Length();
        promise10IsCushion();
        promise11HasCat();
        promise12AreLinked();
        promise13Degree();
        promise14TrainIn();
        promise15ReservedBy();
        promise16Signal();
        Check.finish();
    }

    private static void promise1NewObject() {
        SofaRailway x = new SofaRailway();
        Check.same("1 blocks", x.blockCount(), 0);
        Check.same("1 trains", x.trainCount(), 0);
        Check.same("1 ticks", x.ticks(), 0);
        Check.same("1 arrivals", x.arrivals(), 0);
        Check.same("1 undoCount", x.undoCount(), 0);
        Check.same("1 parts", x.partCount(), 0);
        Check.same("1 parts by unions", x.partCountByUnions(), 0);
        Check.same("1 deadlocked", x.deadlocked(), 0);
        Check.same("1 deadlocked by table", x.deadlockedByTable(), 0);
        Check.same("1 writeSignals", x.writeSignals(), 0);
        Check.yes("1 isConsistent", x.isConsistent());
        Check.index("1 length", () -> x.length(0));
        Check.index("1 blockOf", () -> x.blockOf(0));
        Check.missing("1 rank", () -> x.trainByPriority(0));
        SofaRailway other = new SofaRailway();
        other.addBlock(1);
        Check.same("1 objects are apart", x.blockCount(), 0);
    }

    private static void promise2And3AddBlockAndCushion() {
        SofaRailway x = new SofaRailway();
        Check.argument("2 length 0", () -> x.addBlock(0));
        Check.argument("2 length 10", () -> x.addBlock(10));
        Check.argument("2 length min", () -> x.addBlock(Integer.MIN_VALUE));
        Check.argument("2 length max", () -> x.addBlock(Integer.MAX_VALUE));
        Check.argument("3 length 0", () -> x.addCushion(0));
        Check.argument("3 length 10", () -> x.addCushion(10));
        Check.argument("3 length -1", () -> x.addCushion(-1));
        Check.same("2 nothing was added", x.blockCount(), 0);
        Check.same("2 first", x.addBlock(1), 0);
        Check.same("3 second", x.addCushion(9), 1);
        Check.same("2 third", x.addBlock(9), 2);
        Check.same("3 fourth", x.addCushion(1), 3);
        Check.no("2 plain", x.isCushion(0));
        Check.yes("3 cushion", x.isCushion(1));
        Check.same("2 length", x.length(0), 1);
        Check.same("3 length", x.length(1), 9);
        Check.same("2 no links", x.degree(2), 0);
        Check.same("2 signal", x.signal(2), 'f');
        for (int block = 4; block < 13; block++) {
            Check.same("2 index", x.addBlock(5), block);
        }
        Check.same("3 last index", x.addCushion(5), 13);
        Check.state("2 full", () -> x.addBlock(5));
        Check.state("3 full", () -> x.addCushion(5));
        Check.argument("2 length before full", () -> x.addBlock(0));
        Check.argument("3 length before full", () -> x.addCushion(10));
        Check.same("2 still 14", x.blockCount(), 14);
    }

    private static void promise4Link() {
        SofaRailway x = Sofa.of(1, 2, 3);
        Check.same("4 first link", x.link(0, 1), 1);
        Check.same("4 second link", x.link(2, 1), 2);
        Check.state("4 linked", () -> x.link(0, 1));
        Check.state("4 linked the other way", () -> x.link(1, 0));
        Check.argument("4 same", () -> x.link(2, 2));
        Check.index("4 first too small", () -> x.link(-1, 0));
        Check.index("4 first too large", () -> x.link(3, 0));
        Check.index("4 second too small", () -> x.link(0, Integer.MIN_VALUE));
        Check.index("4 second too large", () -> x.link(0, Integer.MAX_VALUE));
        Check.index("4 index before same", () -> x.link(3, 3));
        Check.index("4 32 apart is no block", () -> x.link(0, 33));
        Check.same("4 third link", x.link(0, 2), 3);
        Check.yes("4 has no direction", x.areLinked(2, 0) && x.areLinked(0, 2));
    }

    private static void promise5Unlink() {
        SofaRailway x = Sofa.line(1, 2, 3);
        x.addTrain(0, 1);
        x.reserve(0, 1);
        Check.missing("5 not linked", () -> x.unlink(0, 2));
        Check.missing("5 same", () -> x.unlink(1, 1));
        Check.index("5 first", () -> x.unlink(3, 0));
        Check.index("5 second", () -> x.unlink(0, -1));
        Check.index("5 index before not linked", () -> x.unlink(-1, -1));
        Check.same("5 the other way", x.unlink(1, 0), 1);
        Check.no("5 gone", x.areLinked(0, 1) || x.areLinked(1, 0));
        Check.yes("5 the other link stays", x.areLinked(1, 2));
        Check.missing("5 twice", () -> x.unlink(0, 1));
        Check.same("5 reservation stays", x.reservedBy(1), 0);
        Check.same("5 last", x.unlink(1, 2), 0);
    }

    private static void promise6PutCat() {
        SofaRailway x = Sofa.line(1, 2, 3);
        x.addTrain(0, 1);
        x.reserve(0, 1);
        Check.same("6 on a reserved block", x.putCat(1), 1);
        Check.same("6 second", x.putCat(2), 2);
        Check.state("6 twice", () -> x.putCat(2));
        Check.unsupported("6 train", () -> x.putCat(0));
        Check.index("6 too small", () -> x.putCat(-1));
        Check.index("6 too large", () -> x.putCat(3));
        Check.no("6 none with the train", x.hasCat(0));
        SofaRailway y = Sofa.of(1, 2);
        Check.same("6 on the first block", y.putCat(0), 1);
        Check.same("6 on the last block", y.putCat(1), 2);
    }

    private static void promise7RemoveCat() {
        SofaRailway x = Sofa.of(1, 2, 3);
        x.putCat(0);
        x.putCat(2);
        Check.missing("7 none", () -> x.removeCat(1));
        Check.index("7 too small", () -> x.removeCat(-1));
        Check.index("7 too large", () -> x.removeCat(3));
        Check.same("7 one left", x.removeCat(0), 1);
        Check.missing("7 twice", () -> x.removeCat(0));
        Check.same("7 none left", x.removeCat(2), 0);
        Check.no("7 gone", x.hasCat(0) || x.hasCat(2));
    }

    private static void promise8BlockCount() {
        SofaRailway x = Sofa.of(1, -2, 3);
        Check.same("8", x.blockCount(), 3);
        x.undo();
        Check.same("8 after undo", x.blockCount(), 2);
    }

    private static void promise9Length() {
        SofaRailway x = Sofa.of(1, -9, 4);
        Check.same("9 first", x.length(0), 1);
        Check.same("9 second", x.length(1), 9);
        Check.same("9 third", x.length(2), 4);
        Check.index("9 too small", () -> x.length(-1));
        Check.index("9 too large", () -> x.length(3));
        Check.index("9 max", () -> x.length(Integer.MAX_VALUE));
    }

    private static void promise10IsCushion() {
        SofaRailway x = Sofa.of(1, -9);
        Check.no("10 plain", x.isCushion(0));
        Check.yes("10 cushion", x.isCushion(1));
        Check.index("10 too small", () -> x.isCushion(-1));
        Check.index("10 too large", () -> x.isCushion(2));
    }

    private static void promise11HasCat() {
        SofaRailway x = Sofa.of(1, -9);
        x.putCat(1);
        Check.no("11 none", x.hasCat(0));
        Check.yes("11 cat", x.hasCat(1));
        Check.index("11 too small", () -> x.hasCat(-1));
        Check.index("11 too large", () -> x.hasCat(2));
    }

    private static void promise12AreLinked() {
        SofaRailway x = Sofa.line(1, 2, 3);
        Check.yes("12 linked", x.areLinked(0, 1));
        Check.yes("12 the other way", x.areLinked(1, 0));
        Check.no("12 over another one", x.areLinked(0, 2));
        Check.no("12 same", x.areLinked(1, 1));
        Check.index("12 first too small", () -> x.areLinked(-1, 0));
        Check.index("12 first too large", () -> x.areLinked(3, 0));
        Check.index("12 second too small", () -> x.areLinked(0, -1));
        Check.index("12 second too large", () -> x.areLinked(0, 3));
        Check.index("12 same but none", () -> x.areLinked(3, 3));
    }

    private static void promise13Degree() {
        SofaRailway x = Sofa.line(1, 2, 3, 4);
        x.link(1, 3);
        Check.same("13 one", x.degree(0), 1);
        Check.same("13 three", x.degree(1), 3);
        x.unlink(1, 0);
        Check.same("13 none", x.degree(0), 0);
        Check.index("13 too small", () -> x.degree(-1));
        Check.index("13 too large", () -> x.degree(4));
    }

    private static void promise14TrainIn() {
        SofaRailway x = Sofa.of(1, 2, 3);
        x.addTrain(2, 1);
        x.addTrain(0, 1);
        Check.same("14 first train", x.trainIn(2), 0);
        Check.same("14 second train", x.trainIn(0), 1);
        Check.missing("14 none", () -> x.trainIn(1));
        Check.index("14 too small", () -> x.trainIn(-1));
        Check.index("14 too large", () -> x.trainIn(3));
    }

    private static void promise15ReservedBy() {
        SofaRailway x = Sofa.line(1, 2, 3, 4);
        x.addTrain(0, 1);
        x.addTrain(3, 1);
        x.reserve(1, 2);
        Check.same("15 reserved", x.reservedBy(2), 1);
        Check.missing("15 not", () -> x.reservedBy(1));
        Check.missing("15 a train is there", () -> x.reservedBy(3));
        Check.index("15 too small", () -> x.reservedBy(-1));
        Check.index("15 too large", () -> x.reservedBy(4));
    }

    private static void promise16Signal() {
        SofaRailway x = Sofa.line(1, 2, 3, 4);
        x.addTrain(0, 1);
        x.reserve(0, 1);
        Check.same("16 train", x.signal(0), 'o');
        Check.same("16 reserved", x.signal(1), 'r');
        Check.same("16 free", x.signal(2), 'f');
        x.putCat(1);
        x.putCat(3);
        Check.same("16 cat before reservation", x.signal(1), 'c');
        Check.same("16 cat", x.signal(3), 'c');
        Check.index("16 too small", () -> x.signal(-1));
        Check.index("16 too large", () -> x.signal(4));
    }
}
