/** Promises 23 to 39: trains. */
public final class TrainsTest {
    public static void main(String[] args) {
        promise23AddTrain();
        promise23AddTrainFull();
        promise24SetGoal();
        promise25ClearGoal();
        promise26Reserve();
        promise27CancelReservation();
        promise28Rescue();
        promise29To31And35Simple();
        promise32RemainingTicks();
        promise33Goal();
        promise34IsDerailed();
        promise35Waits();
        promise36TrainByPriority();
        promise37BlockedBy();
        promise38And39Deadlocked();
        Check.finish();
    }

    private static void promise23AddTrain() {
        SofaRailway x = Sofa.line(1, -2, 3, 4, 5);
        Check.same("23 first", x.addTrain(1, 9), 0);
        Check.same("23 second", x.addTrain(0, 1), 1);
        Check.same("23 block", x.blockOf(0), 1);
        Check.same("23 priority", x.priority(0), 9);
        Check.same("23 remaining ticks", x.remainingTicks(0), 0);
        Check.same("23 waits", x.waits(0), 0);
        Check.no("23 derailed", x.isDerailed(0));
        Check.missing("23 no goal", () -> x.goal(0));
        Check.missing("23 no reservation", () -> x.cancelReservation(0));
        x.putCat(3);
        x.reserve(0, 2);
        Check.unsupported("23 train", () -> x.addTrain(1, 5));
        Check.unsupported("23 cat", () -> x.addTrain(3, 5));
        Check.unsupported("23 reserved", () -> x.addTrain(2, 5));
        Check.argument("23 priority 0", () -> x.addTrain(4, 0));
        Check.argument("23 priority 10", () -> x.addTrain(4, 10));
        Check.argument("23 priority min", () -> x.addTrain(4, Integer.MIN_VALUE));
        Check.argument("23 priority before train", () -> x.addTrain(1, 0));
        Check.index("23 too small", () -> x.addTrain(-1, 5));
        Check.index("23 too large", () -> x.addTrain(5, 5));
        Check.index("23 index before priority", () -> x.addTrain(5, 0));
        Check.same("23 still two", x.trainCount(), 2);
    }

    private static void promise23AddTrainFull() {
        SofaRailway x = Sofa.of(1, 1, 1, 1, 1, 1, 1);
        for (int train = 0; train < 6; train++) {
            Check.same("23 index", x.addTrain(train, 5), train);
        }
        Check.state("23 full", () -> x.addTrain(6, 5));
        Check.state("23 full before train", () -> x.addTrain(0, 5));
        Check.argument("23 priority before full", () -> x.addTrain(6, 10));
        Check.index("23 index before full", () -> x.addTrain(7, 5));
        Check.same("23 six", x.trainCount(), 6);
    }

    private static void promise24SetGoal() {
        SofaRailway x = Sofa.line(-2, 3, -4, -5);
        x.addCushion(1);
        x.addTrain(0, 5);
        Check.same("24 distance", x.setGoal(0, 2), 7);
        Check.same("24 goal", x.goal(0), 2);
        Check.same("24 another goal", x.setGoal(0, 3), 12);
        Check.argument("24 no cushion", () -> x.setGoal(0, 1));
        Check.unsupported("24 there already", () -> x.setGoal(0, 0));
        Check.missing("24 no route", () -> x.setGoal(0, 4));
        Check.index("24 no train", () -> x.setGoal(1, 2));
        Check.index("24 train too small", () -> x.setGoal(-1, 2));
        Check.index("24 no block", () -> x.setGoal(0, 5));
        Check.index("24 block too small", () -> x.setGoal(0, -1));
        Check.index("24 index before cushion", () -> x.setGoal(1, 1));
        Check.same("24 the goal stays", x.goal(0), 3);
        x.addTrain(1, 5);
        Check.argument("24 cushion before there already", () -> x.setGoal(1, 1));
        Check.same("24 a train on the goal does not matter", x.setGoal(1, 0), 2);
        x.unlink(1, 2);
        Check.missing("24 the route is gone", () -> x.setGoal(0, 2));
    }

    private static void promise25ClearGoal() {
        SofaRailway x = Sofa.line(1, -2);
        x.addTrain(0, 5);
        Check.missing("25 none", () -> x.clearGoal(0));
        x.setGoal(0, 1);
        Check.index("25 too small", () -> x.clearGoal(-1));
        Check.index("25 too large", () -> x.clearGoal(1));
        Check.same("25 the goal", x.clearGoal(0), 1);
        Check.missing("25 twice", () -> x.clearGoal(0));
        x.passTicks(1);
        Check.same("25 the train stays", x.blockOf(0), 0);
    }

    private static void promise26Reserve() {
        SofaRailway x = Sofa.line(1, 1, 1, 1, 1, 1);
        x.addTrain(0, 5);
        x.addTrain(2, 5);
        x.addTrain(5, 5);
        Check.argument("26 not linked", () -> x.reserve(0, 2));
        Check.argument("26 its own block", () -> x.reserve(0, 0));
        Check.same("26 first", x.reserve(0, 1), 1);
        Check.unsupported("26 reserved", () -> x.reserve(1, 1));
        Check.state("26 has one", () -> x.reserve(0, 1));
        Check.argument("26 link before has one", () -> x.reserve(0, 3));
        Check.same("26 second", x.reserve(1, 3), 2);
        Check.state("26 has one before reserved", () -> x.reserve(1, 1));
        x.addTrain(4, 5);
        Check.unsupported("26 train", () -> x.reserve(2, 4));
        Check.index("26 no train", () -> x.reserve(4, 1));
        Check.index("26 train too small", () -> x.reserve(-1, 1));
        Check.index("26 no block", () -> x.reserve(2, 6));
        Check.index("26 block too small", () -> x.reserve(2, -1));
        Check.same("26 holder", x.reservedBy(3), 1);
        x.cancelReservation(0);
        x.putCat(1);
        Check.same("26 a cat does not matter", x.reserve(0, 1), 2);
    }

    private static void promise27CancelReservation() {
        SofaRailway x = Sofa.line(1, 1, 1, 1);
        x.addTrain(0, 5);
        x.addTrain(3, 5);
        x.reserve(0, 1);
        x.reserve(1, 2);
        Check.index("27 too small", () -> x.cancelReservation(-1));
        Check.index("27 too large", () -> x.cancelReservation(2));
        Check.same("27 block", x.cancelReservation(0), 1);
        Check.missing("27 twice", () -> x.cancelReservation(0));
        Check.missing("27 free", () -> x.reservedBy(1));
        Check.same("27 the other one stays", x.reservedBy(2), 1);
        Check.same("27 can be reserved again", x.reserve(0, 1), 2);
        x.unlink(0, 1);
        Check.same("27 without the link", x.cancelReservation(0), 1);
    }

    /** Two trains that are both derailed, in blocks 1 and 4 of a line. */
    private static SofaRailway twoDerailed() {
        SofaRailway x = Sofa.line(1, -2, 1, 1, -3, 1);
        x.addTrain(0, 5);
        x.addTrain(5, 5);
        x.putCat(1);
        x.putCat(4);
        x.setGoal(0, 4);
        x.setGoal(1, 4);
        x.passTicks(1);
        return x;
    }

    private static void promise28Rescue() {
        SofaRailway x = twoDerailed();
        x.addTrain(3, 5);
        Check.state("28 not derailed", () -> x.rescue(2));
        Check.index("28 too small", () -> x.rescue(-1));
        Check.index("28 too large", () -> x.rescue(3));
        Check.same("28 one left", x.rescue(0), 1);
        Check.no("28 rescued", x.isDerailed(0));
        Check.yes("28 the other one not", x.isDerailed(1));
        Check.state("28 twice", () -> x.rescue(0));
        Check.same("28 remaining ticks stay", x.remainingTicks(0), 2);
        Check.same("28 the goal stays", x.goal(0), 4);
        Check.same("28 none left", x.rescue(1), 0);
        SofaRailway y = twoDerailed();
        Check.same("28 the first one left", y.rescue(1), 1);
        Check.yes("28 still derailed", y.isDerailed(0));
    }

    private static void promise29To31And35Simple() {
        SofaRailway x = Sofa.of(1, 1, 1);
        Check.same("29 none", x.trainCount(), 0);
        x.addTrain(2, 4);
        x.addTrain(0, 7);
        Check.same("29 two", x.trainCount(), 2);
        Check.same("30 first", x.blockOf(0), 2);
        Check.same("30 second", x.blockOf(1), 0);
        Check.same("31 first", x.priority(0), 4);
        Check.same("31 second", x.priority(1), 7);
        Check.index("30 too small", () -> x.blockOf(-1));
        Check.index("30 too large", () -> x.blockOf(2));
        Check.index("31 too small", () -> x.priority(-1));
        Check.index("31 too large", () -> x.priority(2));
        Check.index("32 too small", () -> x.remainingTicks(-1));
        Check.index("32 too large", () -> x.remainingTicks(2));
        Check.index("33 too small", () -> x.goal(-1));
        Check.index("33 too large", () -> x.goal(2));
        Check.index("34 too small", () -> x.isDerailed(-1));
        Check.index("34 too large", () -> x.isDerailed(2));
        Check.index("35 too small", () -> x.waits(-1));
        Check.index("35 too large", () -> x.waits(2));
    }

    private static void promise32RemainingTicks() {
        SofaRailway x = Sofa.line(1, 3, -2);
        x.addTrain(0, 5);
        Check.same("32 at first", x.remainingTicks(0), 0);
        x.setGoal(0, 2);
        for (int due = 3; due >= 0; due--) {
            x.passTicks(1);
            Check.same("32 in the block", x.remainingTicks(0), due);
            Check.same("32 the block", x.blockOf(0), 1);
        }
        x.passTicks(1);
        Check.same("32 in the next block", x.remainingTicks(0), 2);
    }

    private static void promise33Goal() {
        SofaRailway x = Sofa.line(1, -1);
        x.addTrain(0, 5);
        Check.missing("33 none", () -> x.goal(0));
        x.setGoal(0, 1);
        Check.same("33 goal", x.goal(0), 1);
        x.passTicks(1);
        Check.missing("33 arrived", () -> x.goal(0));
    }

    private static void promise34IsDerailed() {
        SofaRailway x = twoDerailed();
        x.addTrain(0, 1);
        Check.yes("34 derailed", x.isDerailed(0));
        Check.yes("34 derailed at the goal", x.isDerailed(1));
        Check.no("34 not derailed", x.isDerailed(2));
    }

    private static void promise35Waits() {
        SofaRailway x = Sofa.line(1, 1, -1);
        x.addTrain(0, 5);
        x.addTrain(1, 5);
        x.setGoal(0, 2);
        x.passTicks(4);
        Check.same("35 four", x.waits(0), 4);
        Check.same("35 no goal, no waits", x.waits(1), 0);
    }

    private static void promise36TrainByPriority() {
        SofaRailway x = Sofa.of(1, 1, 1, 1, 1);
        x.addTrain(0, 5);
        x.addTrain(1, 9);
        x.addTrain(2, 1);
        x.addTrain(3, 5);
        x.addTrain(4, 9);
        int[] due = {1, 4, 0, 3, 2};
        for (int rank = 0; rank < due.length; rank++) {
            Check.same("36 rank " + rank, x.trainByPriority(rank), due[rank]);
        }
        Check.missing("36 too large", () -> x.trainByPriority(5));
        Check.missing("36 too small", () -> x.trainByPriority(-1));
        Check.missing("36 min", () -> x.trainByPriority(Integer.MIN_VALUE));
        Check.missing("36 max", () -> x.trainByPriority(Integer.MAX_VALUE));
    }

    private static void promise37BlockedBy() {
        SofaRailway x = Sofa.line(-1, 4, -1, 1);
        x.addTrain(0, 5);
        x.addTrain(1, 6);
        Check.missing("37 no goal", () -> x.blockedBy(0));
        x.setGoal(0, 2);
        x.setGoal(1, 2);
        Check.same("37 blocked", x.blockedBy(0), 1);
        Check.missing("37 nothing in the way", () -> x.blockedBy(1));
        x.reserve(1, 2);
        Check.same("37 by a train, not by a reservation", x.blockedBy(0), 1);
        x.addTrain(3, 1);
        x.setGoal(2, 0);
        Check.missing("37 a reservation does not block", () -> x.blockedBy(2));
        Check.index("37 too small", () -> x.blockedBy(-1));
        Check.index("37 too large", () -> x.blockedBy(3));
        x.unlink(1, 2);
        Check.missing("37 no route", () -> x.blockedBy(0));
        promise37Remaining();
        promise37Derailed();
    }

    private static void promise37Remaining() {
        SofaRailway x = Sofa.line(1, 4, -1);
        x.addTrain(0, 5);
        x.addTrain(2, 5);
        x.setGoal(0, 2);
        x.passTicks(1);
        Check.same("37 has remaining ticks", x.remainingTicks(0), 4);
        Check.same("37 remaining ticks do not matter", x.blockedBy(0), 1);
    }

    private static void promise37Derailed() {
        SofaRailway x = Sofa.line(1, 1, 4, -1);
        x.addTrain(0, 5);
        x.addTrain(2, 5);
        x.putCat(1);
        x.setGoal(0, 3);
        x.setGoal(1, 3);
        x.passTicks(1);
        x.addTrain(2, 1);
        Check.missing("37 derailed", () -> x.blockedBy(0));
        x.rescue(0);
        Check.same("37 rescued", x.blockedBy(0), 2);
    }

    private static void stuck(String what, SofaRailway x, int count) {
        Check.same("38 " + what, x.deadlocked(), count);
        Check.same("39 " + what, x.deadlockedByTable(), count);
    }

    private static void promise38And39Deadlocked() {
        SofaRailway pair = Sofa.line(-1, -1, -1, -1);
        pair.addTrain(1, 5);
        pair.addTrain(2, 5);
        stuck("no goals", pair, 0);
        pair.setGoal(0, 3);
        stuck("one blocked", pair, 0);
        pair.setGoal(1, 0);
        stuck("two block each other", pair, 2);
        pair.addTrain(0, 5);
        pair.setGoal(2, 3);
        stuck("one more behind them is not deadlocked", pair, 2);
        SofaRailway ring = Sofa.line(-1, -1, -1, -1, -1);
        ring.link(4, 0);
        for (int block = 0; block < 5; block++) {
            ring.addTrain(block, 5);
            ring.setGoal(block, (block + 2) % 5);
        }
        stuck("five in a ring", ring, 5);
        ring.clearGoal(3);
        stuck("the ring is broken", ring, 0);
        promise38TwoPairs();
        promise38Derailed();
    }

    private static void promise38TwoPairs() {
        SofaRailway x = Sofa.line(-1, -1, -1);
        x.addCushion(1);
        x.addCushion(1);
        x.link(3, 4);
        x.addTrain(0, 5);
        x.addTrain(3, 5);
        x.addTrain(1, 5);
        x.addTrain(4, 5);
        x.setGoal(0, 1);
        x.setGoal(2, 0);
        x.setGoal(1, 4);
        stuck("one pair", x, 2);
        x.setGoal(3, 3);
        stuck("two pairs", x, 4);
    }

    private static void promise38Derailed() {
        SofaRailway x = Sofa.line(-1, 1, 1, -1);
        x.addTrain(0, 5);
        x.addTrain(3, 5);
        x.setGoal(0, 3);
        x.setGoal(1, 0);
        x.putCat(1);
        x.passTicks(1);
        stuck("a derailed train is not blocked", x, 0);
        x.rescue(0);
        stuck("a rescued train is", x, 2);
    }
}
