import java.util.ArrayList;
import java.util.List;

/** Tests of boundary cases; each stands beside the place and the sentence of the document that names its case. */
abstract class Cases {
    interface Way {
        SofaRailway go();
    }

    interface Call {
        void on(SofaRailway x);
    }

    interface IndexCall {
        void on(SofaRailway x, int index);
    }

    /** Two sentences of the terms that name a boundary case of each method that throws. */
    static final String CHANGES_NOTHING =
            "A call that throws an exception changes nothing, unless its description says otherwise.";
    static final String FIRST_DECIDES =
            "If several conditions for exceptions hold, the one that is listed first decides.";

    record Case(String place, String sentence, Runnable test) {
        String name() {
            return place + ", \"" + sentence + "\"";
        }
    }

    final List<Case> all = new ArrayList<>();
    private String place = "";

    /** Names the section of the document in which the sentences that follow stand. */
    final void section(String name) {
        place = name;
    }

    final void promise(int number) {
        place = "Promise " + number;
    }

    final void holds(String sentence, Runnable test) {
        all.add(new Case(place, sentence, test));
    }

    /** The calls, each of which throws on the rich railway, change nothing that later calls could show. */
    final void changesNothing(Call... calls) {
        changesNothing(Scene::rich, calls);
    }

    final void changesNothing(Way way, Call... calls) {
        holds(CHANGES_NOTHING, () -> {
            for (int i = 0; i < calls.length; i++) {
                unchanged("call " + i, way, calls[i]);
            }
        });
    }

    /** For a block that there is not, only the index is looked at, though nothing is found there either. */
    final void blockIndexDecides(IndexCall call) {
        holds(FIRST_DECIDES, () -> {
            index("no block 7", Scene::rich, x -> call.on(x, 7));
            index("no block -1", Scene::rich, x -> call.on(x, -1));
            index("no block 0", SofaRailway::new, x -> call.on(x, 0));
        });
    }

    /** The same for a train. */
    final void trainIndexDecides(IndexCall call) {
        holds(FIRST_DECIDES, () -> {
            index("no train 3", Scene::rich, x -> call.on(x, 3));
            index("no train -1", Scene::rich, x -> call.on(x, -1));
            index("no train 0", Scene::fullBlocks, x -> call.on(x, 0));
        });
    }

    static void unchanged(String what, Way way, Call call) {
        SofaRailway x = way.go();
        boolean threw = false;
        try {
            call.on(x);
        } catch (RuntimeException e) {
            threw = true;
        }
        Check.yes(what + " throws", threw);
        Check.same(what + " then everything", Sofa.everything(x), Sofa.everything(way.go()));
    }

    static void outputOfRich(String what, SofaRailway x) {
        Check.same(what + " the output", Sofa.output(x, 9), "T1@3+4>4!");
        Check.index(what + " the end of the output", () -> x.outputCharacter(9));
    }

    /** Executes the text that is begun, with one more digit. */
    static void inputOfRich(String what, SofaRailway x) {
        Check.same(what + " the length of the input", x.feed('9'), 6);
        Check.same(what + " the input", x.execute(), 1);
        Check.same(what + " what it does", x.ticks(), 10);
    }

    /** Tries the call with each index around those that there are. */
    static void noSuchBlock(IndexCall call) {
        for (int block : Scene.NO_BLOCK) {
            index("block " + block + " of 7", Scene::rich, x -> call.on(x, block));
        }
        index("block 0 of none", SofaRailway::new, x -> call.on(x, 0));
        index("block 14 of 14", Scene::fullBlocks, x -> call.on(x, 14));
        index("a block that was undone", Scene::undone, x -> call.on(x, 7));
    }

    static void noSuchTrain(IndexCall call) {
        for (int train : Scene.NO_TRAIN) {
            index("train " + train + " of 3", Scene::rich, x -> call.on(x, train));
        }
        index("train 0 of none", () -> Scene.blocks(14), x -> call.on(x, 0));
        index("train 6 of 6", Scene::fullTrains, x -> call.on(x, 6));
        index("a train that was undone", Scene::undone, x -> call.on(x, 3));
    }

    static void index(String what, Way way, Call call) {
        SofaRailway x = way.go();
        Check.index(what, () -> call.on(x));
    }

    static void argument(String what, Way way, Call call) {
        SofaRailway x = way.go();
        Check.argument(what, () -> call.on(x));
    }

    static void state(String what, Way way, Call call) {
        SofaRailway x = way.go();
        Check.state(what, () -> call.on(x));
    }

    static void unsupported(String what, Way way, Call call) {
        SofaRailway x = way.go();
        Check.unsupported(what, () -> call.on(x));
    }

    static void missing(String what, Way way, Call call) {
        SofaRailway x = way.go();
        Check.missing(what, () -> call.on(x));
    }
}
