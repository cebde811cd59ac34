import java.lang.reflect.InvocationTargetException;
import java.lang.reflect.Method;
import java.util.ArrayList;
import java.util.Arrays;
import java.util.List;

/** Long runs of calls, always the same ones, on the class and on Model: every answer must be the same. */
public final class ModelTest {
    private static final int RUNS = 1200;
    private static final int CALLS = 512;
    private static final String[] BUILDING = {"addBlock", "addCushion", "link", "link", "link", "link", "addTrain",
        "setGoal", "setGoal", "passTicks"};
    private static final String[] CHANGING = {"link", "unlink", "putCat", "removeCat", "addTrain", "setGoal",
        "setGoal", "setGoal", "clearGoal", "reserve", "reserve", "cancelReservation", "rescue", "rescue", "passTicks",
        "passTicks", "passTicks", "undo"};

    private static final List<String> WITH_TRAIN = List.of("setGoal", "clearGoal", "reserve", "cancelReservation",
            "rescue", "nextBlock", "blockOf", "priority", "remainingTicks", "goal", "isDerailed", "waits", "blockedBy",
            "ticksUntilArrival", "writeTrain", "trainByPriority");

    private final List<String> log = new ArrayList<>();
    private final Method[] methods;
    private SofaRailway railway;
    private Model model;
    private long seed;

    private ModelTest(Method[] methods) {
        this.methods = methods;
    }

    public static void main(String[] args) throws Exception {
        Method[] methods = Arrays.stream(SofaRailway.class.getMethods())
                .filter(m -> m.getDeclaringClass() == SofaRailway.class).toArray(Method[]::new);
        // getMethods has no fixed order, but the runs must always be the same ones.
        Arrays.sort(methods, (a, b) -> a.getName().compareTo(b.getName()));
        ModelTest test = new ModelTest(methods);
        for (int run = 0; run < RUNS && test.run(run); run++) {
            test.log.clear();
        }
        Check.finish();
    }

    private int below(int bound) {
        seed = seed * 6364136223846793005L + 1442695040888963407L;
        return (int) Math.floorMod(seed >>> 33, (long) bound);
    }

    private boolean run(int number) throws Exception {
        seed = number * 7919L + 17;
        railway = new SofaRailway();
        model = new Model();
        int style = number % 3;
        while (log.size() < CALLS) {
            boolean good;
            int kind = below(10);
            if (log.size() < 60 && kind < 9) {
                good = call(BUILDING[below(BUILDING.length)]);
            } else if (kind < 4) {
                good = call(CHANGING[below(CHANGING.length)]);
            } else if (style == 2 && kind < 6) {
                good = text(below(6) == 0);
            } else if (kind < 6) {
                good = call(WITH_TRAIN.get(below(WITH_TRAIN.size())));
            } else {
                good = call(methods[below(methods.length)].getName());
            }
            if (!good) {
                return false;
            }
        }
        return true;
    }

    private boolean call(String name) throws Exception {
        for (Method method : methods) {
            if (method.getName().equals(name)) {
                Object[] arguments = new Object[method.getParameterCount()];
                for (int i = 0; i < arguments.length; i++) {
                    arguments[i] = name.equals("feed") ? (Object) letter() : (Object) number(name, i);
                }
                return compare(method, arguments);
            }
        }
        throw new IllegalStateException(name);
    }

    private boolean compare(Method method, Object[] arguments) throws Exception {
        // What an object answers after its 512th call is free.
        if (log.size() >= CALLS) {
            return true;
        }
        Method due = Model.class.getMethod(method.getName(), method.getParameterTypes());
        String got = outcome(method, railway, arguments);
        String wanted = outcome(due, model, arguments);
        log.add(method.getName() + Arrays.toString(arguments) + " " + got);
        if (!got.equals(wanted)) {
            Check.report(String.join("\n", log) + "\ndue is " + wanted);
            return false;
        }
        return true;
    }

    private static String outcome(Method method, Object target, Object[] arguments) throws Exception {
        try {
            return String.valueOf(method.invoke(target, arguments));
        } catch (InvocationTargetException e) {
            return "throws " + e.getCause().getClass().getName();
        }
    }

    private int number(String name, int which) {
        if (below(60) == 0) {
            int[] wild = {-1, 14, 15, 32, 64, Integer.MIN_VALUE, Integer.MAX_VALUE, 0, 51, 10};
            return wild[below(wild.length)];
        }
        if (which == 0 && WITH_TRAIN.contains(name) && model.trainCount() > 0) {
            return below(model.trainCount());
        }
        switch (name) {
            case "addBlock":
            case "addCushion":
                return 1 + below(below(4) == 0 ? 9 : 3);
            case "passTicks":
                return 1 + below(below(8) == 0 ? 50 : 4);
            case "addTrain":
                return which == 1 ? 1 + below(9) : anyBlock();
            case "reserve":
                return besideTrain();
            case "setGoal":
                return mostlyCushion();
            default:
                return anyBlock();
        }
    }

    /** Mostly a block beside some train, since other reservations are refused. */
    private int besideTrain() {
        return model.trainCount() > 0 && below(2) == 0
                ? Math.max(0, model.blockOf(below(model.trainCount())) + below(5) - 2) : anyBlock();
    }

    private int mostlyCushion() {
        int block = anyBlock();
        for (int tries = 0; tries < 4; tries++) {
            if (block < model.blockCount() && model.isCushion(block)) {
                return block;
            }
            block = anyBlock();
        }
        return block;
    }

    private int anyBlock() {
        return below(Math.max(1, model.blockCount() + (below(10) == 0 ? 2 : 0)));
    }

    private char letter() {
        String letters = "blockushintradgeltcmo 0123456789-*>@;\u0665\uffff";
        return letters.charAt(below(letters.length()));
    }

    /** Feeds a text, executes it and asks for what was kept. */
    private boolean text(boolean spoilt) throws Exception {
        StringBuilder text = new StringBuilder(command());
        int more = below(5);
        for (int i = 0; i < more; i++) {
            text.append(';').append(command());
        }
        if (spoilt) {
            int at = below(text.length());
            if (below(2) == 0) {
                text.setCharAt(at, letter());
            } else {
                text.deleteCharAt(at);
            }
        }
        boolean good = true;
        for (int i = 0; i < text.length() && good; i++) {
            good = compare(SofaRailway.class.getMethod("feed", char.class), new Object[] {text.charAt(i)});
        }
        return good && call("execute") && call("errorPosition") && call("failedCommand");
    }

    private String command() {
        int block = anyBlock();
        int other = anyBlock();
        int train = below(Math.max(1, model.trainCount()));
        String number = block < 10 && below(9) == 0 ? "0" + block : "" + block;
        switch (below(11)) {
            case 0:
                return "block " + below(10);
            case 1:
                return "cushion " + below(10);
            case 2:
                return "link " + number + "-" + other;
            case 3:
                return "train " + number + "*" + below(10);
            case 4:
                return "goal " + train + ">" + number;
            case 5:
                return "cat " + number;
            case 6:
                return "hold " + train + "@" + number;
            case 7:
                return "rescue " + train;
            default:
                return "tick " + (1 + below(below(5) == 0 ? 60 : 9));
        }
    }
}
