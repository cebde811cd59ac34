/** Promises 40 to 49: ticks, statistics and output. */
public final class TicksTest {
    public static void main(String[] args) {
        promise40Moves();
        promise40Order();
        promise40Reservations();
        promise40Cats();
        promise40NoRoute();
        promise40Arguments();
        promise41And42Counts();
        promise43TicksUntilArrival();
        promise43Limits();
        promise44MeanWaits();
        promise45OccupiedFraction();
        promise46WriteTrain();
        promise47WriteSignals();
        promise48OutputCharacter();
        promise49IsConsistent();
        Check.finish();
    }

    private static void promise40Moves() {
        SofaRailway x = Sofa.line(1, 2, -3, 1);
        x.addTrain(0, 5);
        x.setGoal(0, 2);
        Check.same("40 moves at once", x.passTicks(1), 0);
        Check.same("40 block", x.blockOf(0), 1);
        Check.same("40 stays for the length", x.passTicks(2), 0);
        Check.same("40 still there", x.blockOf(0), 1);
        Check.same("40 then arrives", x.passTicks(1), 1);
        Check.same("40 goal block", x.blockOf(0), 2);
        Check.same("40 remaining at the goal", x.remainingTicks(0), 3);
        Check.same("40 no waits", x.waits(0), 0);
        Check.same("40 remaining ticks pass without a goal", x.passTicks(4), 0);
        Check.same("40 down to 0", x.remainingTicks(0), 0);
        Check.same("40 stays without a goal", x.blockOf(0), 2);
    }

    private static void promise40Order() {
        SofaRailway follow = Sofa.line(1, 1, 1, -1);
        follow.addTrain(0, 5);
        follow.addTrain(1, 6);
        follow.setGoal(0, 3);
        follow.setGoal(1, 3);
        follow.passTicks(1);
        Check.same("40 the higher priority first", follow.blockOf(1), 2);
        Check.same("40 so that the other one follows", follow.blockOf(0), 1);
        SofaRailway wait = Sofa.line(1, 1, 1, -1);
        wait.addTrain(0, 5);
        wait.addTrain(1, 5);
        wait.setGoal(0, 3);
        wait.setGoal(1, 3);
        wait.passTicks(1);
        Check.same("40 the smallest index first", wait.waits(0), 1);
        Check.same("40 so that it stays", wait.blockOf(0), 0);
        Check.same("40 and the other one moves", wait.blockOf(1), 2);
    }

    private static void promise40Reservations() {
        SofaRailway x = Sofa.line(1, 1, -1, 1);
        x.link(1, 3);
        x.addTrain(0, 5);
        x.addTrain(3, 1);
        x.setGoal(0, 2);
        x.reserve(1, 1);
        x.passTicks(2);
        Check.same("40 reserved by another train", x.blockOf(0), 0);
        Check.same("40 waits for it", x.waits(0), 2);
        x.cancelReservation(1);
        x.reserve(0, 1);
        x.passTicks(1);
        Check.same("40 reserved by itself", x.blockOf(0), 1);
        Check.missing("40 the reservation ends", () -> x.cancelReservation(0));
        x.passTicks(1);
        Check.same("40 stays", x.blockOf(0), 1);
        x.reserve(0, 0);
        x.passTicks(1);
        Check.same("40 moved on", x.blockOf(0), 2);
        Check.missing("40 a reservation of another block ends too", () -> x.reservedBy(0));
        promise40WaitKeepsReservation();
    }

    private static void promise40WaitKeepsReservation() {
        SofaRailway x = Sofa.line(1, 1, -1, 1);
        x.addTrain(1, 5);
        x.addTrain(2, 5);
        x.setGoal(0, 2);
        x.reserve(0, 0);
        x.passTicks(1);
        Check.same("40 a wait", x.waits(0), 1);
        Check.same("40 keeps the reservation", x.reservedBy(0), 0);
    }

    private static void promise40Cats() {
        SofaRailway x = Sofa.line(1, 4, -2);
        x.addTrain(0, 5);
        x.setGoal(0, 2);
        x.putCat(1);
        x.putCat(2);
        Check.same("40 no arrival", x.passTicks(1), 0);
        Check.yes("40 derailed", x.isDerailed(0));
        Check.no("40 the cat leaves", x.hasCat(1));
        Check.yes("40 the other cat stays", x.hasCat(2));
        Check.same("40 remaining", x.remainingTicks(0), 4);
        x.passTicks(5);
        Check.same("40 a derailed train does nothing", x.remainingTicks(0), 4);
        Check.same("40 not even wait", x.waits(0), 0);
        x.rescue(0);
        Check.same("40 after the rescue the rest", x.passTicks(4), 0);
        Check.same("40 arrives derailed", x.passTicks(1), 1);
        Check.yes("40 derailed at the goal", x.isDerailed(0));
        Check.missing("40 no goal any more", () -> x.goal(0));
        Check.same("40 arrivals", x.arrivals(), 1);
    }

    private static void promise40NoRoute() {
        SofaRailway x = Sofa.line(1, 1, -1);
        x.addTrain(0, 5);
        x.setGoal(0, 2);
        x.unlink(1, 2);
        x.passTicks(3);
        Check.same("40 no next block, no waits", x.waits(0), 0);
        Check.same("40 stays", x.blockOf(0), 0);
        Check.same("40 the goal stays", x.goal(0), 2);
    }

    private static void promise40Arguments() {
        SofaRailway x = new SofaRailway();
        Check.argument("40 ticks 0", () -> x.passTicks(0));
        Check.argument("40 ticks 51", () -> x.passTicks(51));
        Check.argument("40 ticks -1", () -> x.passTicks(-1));
        Check.argument("40 ticks min", () -> x.passTicks(Integer.MIN_VALUE));
        Check.argument("40 ticks max", () -> x.passTicks(Integer.MAX_VALUE));
        Check.same("40 none passed", x.ticks(), 0);
        Check.same("40 ticks 1", x.passTicks(1), 0);
        Check.same("40 ticks 50", x.passTicks(50), 0);
        Check.same("40 51 passed", x.ticks(), 51);
    }

    private static void promise41And42Counts() {
        SofaRailway x = Sofa.line(-1, -1, 1, -1, -1);
        x.addTrain(0, 5);
        x.addTrain(4, 5);
        x.setGoal(0, 1);
        x.setGoal(1, 3);
        Check.same("40 two arrivals", x.passTicks(1), 2);
        Check.same("42 two", x.arrivals(), 2);
        Check.same("41 one", x.ticks(), 1);
        x.setGoal(0, 0);
        Check.same("40 another one", x.passTicks(7), 1);
        Check.same("42 three", x.arrivals(), 3);
        Check.same("41 eight", x.ticks(), 8);
    }

    private static void promise43TicksUntilArrival() {
        SofaRailway x = Sofa.line(1, 2, -3, 1);
        x.addTrain(0, 5);
        x.addTrain(3, 5);
        x.setGoal(0, 2);
        String before = Sofa.picture(x);
        Check.same("43 four", x.ticksUntilArrival(0), 4);
        Check.same("43 changes nothing", Sofa.picture(x), before);
        Check.missing("43 no goal", () -> x.ticksUntilArrival(1));
        Check.index("43 too small", () -> x.ticksUntilArrival(-1));
        Check.index("43 too large", () -> x.ticksUntilArrival(2));
        x.passTicks(3);
        Check.same("43 one", x.ticksUntilArrival(0), 1);
        x.putCat(2);
        Check.same("43 an arrival that derails", x.ticksUntilArrival(0), 1);
        Check.yes("43 the cat stays", x.hasCat(2));
        x.undo();
        x.addTrain(2, 9);
        Check.missing("43 blocked for ever", () -> x.ticksUntilArrival(0));
        x.undo();
        x.unlink(1, 2);
        Check.missing("43 no route", () -> x.ticksUntilArrival(0));
        SofaRailway derails = Sofa.line(1, 1, -1);
        derails.addTrain(0, 5);
        derails.putCat(1);
        derails.setGoal(0, 2);
        Check.missing("43 derails on the way", () -> derails.ticksUntilArrival(0));
        derails.passTicks(1);
        Check.missing("43 derailed", () -> derails.ticksUntilArrival(0));
        Check.same("43 other trains move too", withLeader().ticksUntilArrival(0), 7);
    }

    /** The second train comes free of block 1 at once, but of block 2 only after the first train has waited once. */
    private static SofaRailway withLeader() {
        SofaRailway x = Sofa.line(1, 1, 2, -1, -1);
        x.addTrain(0, 5);
        x.addTrain(1, 5);
        x.setGoal(1, 4);
        x.setGoal(0, 3);
        x.passTicks(1);
        return x;
    }

    private static void promise43Limits() {
        // Ten blocks of length 9 take 10 ticks each but the first one, so the last one is entered in tick 1 + 9 * 10.
        SofaRailway x = Sofa.line(1, 9, 9, 9, 9, 9, 9, 9, 9, 9, 6, -1, -1);
        x.addTrain(0, 5);
        x.setGoal(0, 11);
        Check.same("43 98 ticks", x.ticksUntilArrival(0), 98);
        x.setGoal(0, 12);
        Check.missing("43 100 ticks", () -> x.ticksUntilArrival(0));
        x.passTicks(1);
        Check.same("43 99 ticks", x.ticksUntilArrival(0), 99);
        x.undo();
        Check.missing("43 100 ticks again", () -> x.ticksUntilArrival(0));
    }

    private static void promise44MeanWaits() {
        SofaRailway x = Sofa.line(1, 1, -1, 1);
        Check.arithmetic("44 no trains", () -> x.meanWaits());
        x.addTrain(0, 5);
        Check.same("44 no waits", x.meanWaits(), 0.0);
        x.addTrain(1, 5);
        x.addTrain(3, 5);
        x.setGoal(0, 2);
        x.passTicks(1);
        Check.same("44 a third", x.meanWaits(), 1.0 / 3.0);
        x.passTicks(4);
        Check.same("44 five thirds", x.meanWaits(), 5.0 / 3.0);
    }

    private static void promise45OccupiedFraction() {
        SofaRailway x = new SofaRailway();
        Check.arithmetic("45 no blocks", () -> x.occupiedFraction());
        x.addBlock(1);
        Check.same("45 no trains", x.occupiedFraction(), 0f);
        x.addTrain(0, 1);
        Check.same("45 all", x.occupiedFraction(), 1f);
        x.addBlock(1);
        x.addBlock(1);
        Check.same("45 a third as a float", x.occupiedFraction(), 1f / 3f);
        x.addTrain(2, 1);
        Check.same("45 two thirds", x.occupiedFraction(), 2f / 3f);
    }

    private static void wrote(String what, SofaRailway x, int length, String due) {
        Check.same(what + " length", length, due.length());
        Check.same(what, Sofa.output(x, length), due);
        Check.index(what + " ends", () -> x.outputCharacter(due.length()));
    }

    private static void promise46WriteTrain() {
        SofaRailway x = Sofa.line(-1, 1, 1, 1, 1, 1, 1, 1, 1, 1, 1, 4, -1, -9);
        x.addTrain(10, 5);
        wrote("46 plain", x, x.writeTrain(0), "T0@10");
        x.setGoal(0, 0);
        wrote("46 goal 0", x, x.writeTrain(0), "T0@10>0");
        x.setGoal(0, 12);
        wrote("46 goal", x, x.writeTrain(0), "T0@10>12");
        x.putCat(11);
        x.passTicks(1);
        wrote("46 all", x, x.writeTrain(0), "T0@11+4>12!");
        x.clearGoal(0);
        wrote("46 without goal", x, x.writeTrain(0), "T0@11+4!");
        x.rescue(0);
        x.passTicks(1);
        wrote("46 remaining", x, x.writeTrain(0), "T0@11+3");
        x.passTicks(2);
        wrote("46 one remaining", x, x.writeTrain(0), "T0@11+1");
        x.passTicks(1);
        wrote("46 none remaining", x, x.writeTrain(0), "T0@11");
        x.addTrain(0, 1);
        wrote("46 another train", x, x.writeTrain(1), "T1@0");
        Check.index("46 too small", () -> x.writeTrain(-1));
        Check.index("46 too large", () -> x.writeTrain(2));
        wrote("46 the output stays", x, 4, "T1@0");
        SofaRailway y = Sofa.line(1, 1, 1, 1, 4, 1, 1, 1, 1, 1, 1, 1, -1);
        y.addTrain(3, 1);
        y.putCat(4);
        y.setGoal(0, 12);
        y.passTicks(1);
        wrote("46 the example", y, y.writeTrain(0), "T0@4+4>12!");
    }

    private static void promise47WriteSignals() {
        SofaRailway x = Sofa.line(1, 1, 1, 1);
        x.addTrain(0, 1);
        x.reserve(0, 1);
        x.putCat(3);
        wrote("47 four", x, x.writeSignals(), "orfc");
        x.writeTrain(0);
        x.addBlock(1);
        wrote("47 replaces", x, x.writeSignals(), "orfcf");
        SofaRailway full = Sofa.of(1, 1, 1, 1, 1, 1, 1, 1, 1, 1, 1, 1, 1, 1);
        wrote("47 fourteen", full, full.writeSignals(), "ffffffffffffff");
        SofaRailway none = new SofaRailway();
        wrote("47 none", none, none.writeSignals(), "");
    }

    private static void promise48OutputCharacter() {
        SofaRailway x = Sofa.line(1, 1);
        Check.index("48 empty at first", () -> x.outputCharacter(0));
        x.addTrain(1, 1);
        x.writeSignals();
        Check.same("48 first", x.outputCharacter(0), 'f');
        Check.same("48 second", x.outputCharacter(1), 'o');
        Check.index("48 too large", () -> x.outputCharacter(2));
        Check.index("48 too small", () -> x.outputCharacter(-1));
        Check.index("48 min", () -> x.outputCharacter(Integer.MIN_VALUE));
        Check.index("48 max", () -> x.outputCharacter(Integer.MAX_VALUE));
        x.addBlock(1);
        x.undo();
        x.undo();
        Check.same("48 not undone", x.outputCharacter(1), 'o');
        x.save();
        x.writeSignals();
        x.restore();
        Check.same("48 not restored", x.outputCharacter(1), 'f');
        Check.index("48 no third character", () -> x.outputCharacter(2));
    }

    private static void promise49IsConsistent() {
        SofaRailway x = Sofa.line(-1, -2, -3, -4);
        Check.yes("49 a line", x.isConsistent());
        x.addBlock(5);
        Check.yes("49 two parts", x.isConsistent());
        x.addTrain(1, 1);
        x.addTrain(2, 1);
        x.setGoal(0, 3);
        x.setGoal(1, 0);
        Check.same("49 a deadlock", x.deadlocked(), 2);
        Check.yes("49 with a deadlock", x.isConsistent());
    }
}
