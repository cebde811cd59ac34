/** Promises 17 to 22: routes and parts. */
public final class RoutesTest {
    public static void main(String[] args) {
        promise17And18Distance();
        promise19NextBlock();
        promise20And21Parts();
        promise22NearestCushion();
        Check.finish();
    }

    /** Both methods must give the same answer, so each expectation holds for both. */
    private static void due(String what, SofaRailway x, int from, int to, int length) {
        Check.same("17 " + what, x.distance(from, to), length);
        Check.same("18 " + what, x.distanceByRounds(from, to), length);
    }

    private static void promise17And18Distance() {
        SofaRailway x = Sofa.line(2, 3, 1, 9, 5);
        x.link(3, 0);
        x.addBlock(4);
        due("to itself", x, 2, 2, 0);
        due("to an unlinked itself", x, 5, 5, 0);
        due("without the first block", x, 0, 1, 3);
        due("and back", x, 1, 0, 2);
        due("around", x, 0, 2, 4);
        due("two ways", x, 1, 3, 10);
        due("to the end", x, 0, 4, 14);
        due("from the end", x, 4, 0, 11);
        x.addTrain(1, 5);
        x.putCat(3);
        due("trains and cats do not matter", x, 0, 2, 4);
        Check.missing("17 no route", () -> x.distance(0, 5));
        Check.missing("18 no route", () -> x.distanceByRounds(0, 5));
        Check.missing("17 no route back", () -> x.distance(5, 0));
        Check.missing("18 no route back", () -> x.distanceByRounds(5, 0));
        Check.index("17 from too small", () -> x.distance(-1, 0));
        Check.index("17 from too large", () -> x.distance(6, 0));
        Check.index("17 to too small", () -> x.distance(0, -1));
        Check.index("17 to too large", () -> x.distance(0, 6));
        Check.index("18 from too small", () -> x.distanceByRounds(-1, 0));
        Check.index("18 from too large", () -> x.distanceByRounds(6, 0));
        Check.index("18 to too small", () -> x.distanceByRounds(0, -1));
        Check.index("18 to too large", () -> x.distanceByRounds(0, 6));
        Check.index("17 same but none", () -> x.distance(6, 6));
        Check.index("18 same but none", () -> x.distanceByRounds(6, 6));
        SofaRailway longest = Sofa.line(9, 9, 9, 9, 9, 9, 9, 9, 9, 9, 9, 9, 9, 9);
        due("the longest line", longest, 0, 13, 117);
        due("the longest line backwards", longest, 13, 0, 117);
        SofaRailway detour = Sofa.of(1, 9, 1, 1, 1);
        detour.link(0, 1);
        detour.link(1, 4);
        detour.link(0, 2);
        detour.link(2, 3);
        detour.link(3, 4);
        due("more blocks but shorter", detour, 0, 4, 3);
        SofaRailway mirrored = Sofa.of(1, 1, 1, 9, 1);
        mirrored.link(0, 3);
        mirrored.link(3, 4);
        mirrored.link(0, 1);
        mirrored.link(1, 2);
        mirrored.link(2, 4);
        due("more blocks with smaller indices but shorter", mirrored, 0, 4, 3);
        detour.unlink(2, 3);
        due("after unlink", detour, 0, 4, 10);
    }

    private static void promise19NextBlock() {
        SofaRailway x = Sofa.of(-1, 4, 4, -1, 1, -1);
        x.link(0, 2);
        x.link(0, 1);
        x.link(1, 3);
        x.link(2, 3);
        x.addTrain(0, 1);
        Check.missing("19 no goal", () -> x.nextBlock(0));
        x.setGoal(0, 3);
        Check.same("19 the smallest index of several", x.nextBlock(0), 1);
        x.addTrain(1, 1);
        Check.same("19 trains do not matter", x.nextBlock(0), 1);
        x.link(0, 4);
        Check.same("19 a dead end", x.nextBlock(0), 1);
        x.link(4, 3);
        Check.same("19 the shortest", x.nextBlock(0), 4);
        x.link(0, 3);
        Check.same("19 the goal itself", x.nextBlock(0), 3);
        Check.missing("19 none for the other train", () -> x.nextBlock(1));
        Check.index("19 too small", () -> x.nextBlock(-1));
        Check.index("19 too large", () -> x.nextBlock(2));
        x.unlink(0, 3);
        x.unlink(1, 3);
        x.unlink(2, 3);
        x.unlink(4, 3);
        Check.missing("19 no route any more", () -> x.nextBlock(0));
        x.link(2, 3);
        Check.same("19 the only route", x.nextBlock(0), 2);
        promise19Derailed();
    }

    private static void promise19Derailed() {
        SofaRailway x = Sofa.line(1, 2, -3);
        x.addTrain(0, 1);
        x.setGoal(0, 2);
        x.putCat(1);
        x.passTicks(1);
        Check.yes("19 derailed", x.isDerailed(0));
        Check.same("19 of a derailed train", x.nextBlock(0), 2);
    }

    private static void parts(String what, SofaRailway x, int count) {
        Check.same("20 " + what, x.partCount(), count);
        Check.same("21 " + what, x.partCountByUnions(), count);
    }

    private static void promise20And21Parts() {
        SofaRailway x = Sofa.of(1, 1, 1, 1, 1, 1);
        parts("no links", x, 6);
        x.link(5, 0);
        parts("one link", x, 5);
        x.link(1, 2);
        x.link(2, 3);
        parts("three parts", x, 3);
        x.link(1, 3);
        parts("a ring", x, 3);
        x.link(0, 3);
        parts("two parts", x, 2);
        x.link(5, 4);
        parts("one part", x, 1);
        x.unlink(3, 0);
        parts("cut again", x, 2);
        SofaRailway crossed = Sofa.of(1, 1, 1, 1);
        crossed.link(0, 2);
        crossed.link(1, 2);
        crossed.link(0, 3);
        crossed.link(1, 3);
        parts("a ring over crossed indices", crossed, 1);
        parts("the longest line", Sofa.line(9, 9, 9, 9, 9, 9, 9, 9, 9, 9, 9, 9, 9, 9), 1);
        parts("nothing", new SofaRailway(), 0);
    }

    private static void promise22NearestCushion() {
        SofaRailway x = Sofa.line(-3, 1, 1, -2, 1, 1);
        x.addBlock(1);
        Check.same("22 itself", x.nearestCushion(0), 0);
        Check.same("22 near to the left", x.nearestCushion(1), 0);
        Check.same("22 near to the right", x.nearestCushion(2), 3);
        Check.same("22 behind", x.nearestCushion(5), 3);
        Check.missing("22 none in reach", () -> x.nearestCushion(6));
        Check.index("22 too small", () -> x.nearestCushion(-1));
        Check.index("22 too large", () -> x.nearestCushion(7));
        x.addCushion(9);
        Check.missing("22 still none in reach", () -> x.nearestCushion(6));
        Check.same("22 the only one", x.nearestCushion(7), 7);
        SofaRailway equal = Sofa.line(-2, 1, -2);
        Check.same("22 the smallest index of several", equal.nearestCushion(1), 0);
        SofaRailway direction = Sofa.line(-3, 9, -2);
        Check.same("22 by the distance to the cushion", direction.nearestCushion(1), 2);
        SofaRailway plain = Sofa.line(1, 1);
        Check.missing("22 no cushion at all", () -> plain.nearestCushion(0));
    }
}
