/** A railway with 14 blocks and 6 trains: every call goes to the ends of its rows, and none beyond. */
public final class FullTest {
    public static void main(String[] args) {
        queries();
        changes();
        everyTrainOnEveryRank();
        Check.finish();
    }

    /** A ring of 14 blocks, cushions at odd indices, with trains in the last six blocks. */
    private static SofaRailway full() {
        SofaRailway x = Sofa.line(1, -1, 1, -1, 1, -1, 1, -1, 1, -1, 1, -1, 1, -1);
        x.link(13, 0);
        for (int block = 8; block < 14; block++) {
            x.addTrain(block, block - 7);
        }
        return x;
    }

    private static void queries() {
        SofaRailway x = full();
        Check.same("17 across", x.distance(0, 7), 7);
        Check.same("18 across", x.distanceByRounds(13, 6), 7);
        Check.same("20", x.partCount(), 1);
        Check.same("21", x.partCountByUnions(), 1);
        Check.same("22", x.nearestCushion(0), 1);
        Check.same("14", x.trainIn(13), 5);
        Check.missing("14 none", () -> x.trainIn(0));
        Check.missing("15 none", () -> x.reservedBy(13));
        Check.missing("36", () -> x.trainByPriority(6));
        Check.same("38", x.deadlocked(), 0);
        Check.same("39", x.deadlockedByTable(), 0);
        Check.yes("49", x.isConsistent());
        Check.same("45", x.occupiedFraction(), 6f / 14f);
        Check.same("44", x.meanWaits(), 0.0);
        Check.same("47", x.writeSignals(), 14);
        Check.same("47 text", Sofa.output(x, 14), "ffffffffoooooo");
        Check.index("48", () -> x.outputCharacter(14));
        Check.index("9", () -> x.length(14));
        Check.index("30", () -> x.blockOf(6));
    }

    private static void changes() {
        SofaRailway x = full();
        Check.state("2", () -> x.addBlock(1));
        Check.state("23", () -> x.addTrain(0, 1));
        Check.same("4", x.link(0, 2), 15);
        Check.same("5", x.unlink(2, 0), 14);
        Check.same("6", x.putCat(0), 1);
        Check.same("26", x.reserve(5, 0), 1);
        Check.same("24", x.setGoal(5, 5), 6);
        Check.same("43", withoutCat(x), 11);
        x.putCat(0);
        Check.same("40", x.passTicks(1), 0);
        Check.yes("34", x.isDerailed(5));
        Check.missing("27", () -> x.cancelReservation(5));
        Check.same("28", x.rescue(5), 0);
        Check.same("40 the way goes on", x.passTicks(11), 1);
        Check.same("30", x.blockOf(5), 5);
        Check.same("41", x.ticks(), 12);
        for (int left = 7; left >= 3; left--) {
            Check.same("54", x.undo(), left);
        }
    }

    private static int withoutCat(SofaRailway x) {
        x.removeCat(0);
        return x.ticksUntilArrival(5);
    }

    private static void everyTrainOnEveryRank() {
        SofaRailway x = full();
        for (int rank = 0; rank < 6; rank++) {
            Check.same("36", x.trainByPriority(rank), 5 - rank);
        }
        SofaRailway ring = Sofa.line(-1, -1, -1, -1, -1, -1);
        ring.link(5, 0);
        for (int block = 0; block < 6; block++) {
            ring.addTrain(block, 5);
            ring.setGoal(block, (block + 2) % 6);
        }
        Check.same("38 six in a ring", ring.deadlocked(), 6);
        Check.same("39 six in a ring", ring.deadlockedByTable(), 6);
        Check.same("40 nobody moves", ring.passTicks(50), 0);
        Check.same("44", ring.meanWaits(), 50.0);
    }
}
