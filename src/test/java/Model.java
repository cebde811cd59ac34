import java.util.ArrayList;
import java.util.Arrays;
import java.util.List;
import java.util.NoSuchElementException;
import java.util.regex.Matcher;
import java.util.regex.Pattern;

/**
 * The document once more, written in another way than the class: a new layout for each change, distances by a table
 * of all pairs, texts by a regular expression. ModelTest compares the class with it.
 */
final class Model {
    private static final int NEVER = 1_000_000;
    private static final Pattern COMMAND = Pattern.compile(
            "(block|cushion|rescue) ([0-9])|(cat|tick) ([0-9]{1,2})|(link) ([0-9]{1,2})-([0-9]{1,2})"
            + "|(train) ([0-9]{1,2})\\*([0-9])|(goal) ([0-9])>([0-9]{1,2})|(hold) ([0-9])@([0-9]{1,2})");
    private static final Pattern TEXT = Pattern.compile("(" + COMMAND + ")(;(" + COMMAND + "))*");

    private static final class Block {
        int length;
        boolean cushion;
        boolean cat;
    }

    private static final class Train {
        int block;
        int priority;
        int remaining;
        Integer goal;
        Integer reserved;
        int waits;
        boolean derailed;
    }

    private static final class Layout {
        List<Block> blocks = new ArrayList<>();
        List<Train> trains = new ArrayList<>();
        boolean[][] linked = new boolean[14][14];
        int ticks;
        int arrivals;

        Layout copy() {
            Layout copy = new Layout();
            for (Block block : blocks) {
                Block b = new Block();
                b.length = block.length;
                b.cushion = block.cushion;
                b.cat = block.cat;
                copy.blocks.add(b);
            }
            for (Train train : trains) {
                Train t = new Train();
                t.block = train.block;
                t.priority = train.priority;
                t.remaining = train.remaining;
                t.goal = train.goal;
                t.reserved = train.reserved;
                t.waits = train.waits;
                t.derailed = train.derailed;
                copy.trains.add(t);
            }
            for (int i = 0; i < 14; i++) {
                copy.linked[i] = linked[i].clone();
            }
            copy.ticks = ticks;
            copy.arrivals = arrivals;
            return copy;
        }
    }

    private Layout now = new Layout();
    private Layout saved;
    private final List<Layout> past = new ArrayList<>();
    private final StringBuilder input = new StringBuilder();
    private String output = "";
    private Integer errorPosition;
    private Integer failedCommand;
    /** While a text is executed, its commands are no changes of their own. */
    private boolean executing = false;

    private void change() {
        if (!executing) {
            past.add(now);
            if (past.size() > 8) {
                past.remove(0);
            }
        }
        now = now.copy();
    }

    private void block(int... indices) {
        for (int index : indices) {
            if (index < 0 || index >= now.blocks.size()) {
                throw new IndexOutOfBoundsException();
            }
        }
    }

    private Train train(int index) {
        if (index < 0 || index >= now.trains.size()) {
            throw new IndexOutOfBoundsException();
        }
        return now.trains.get(index);
    }

    private static void argument(boolean good) {
        if (!good) {
            throw new IllegalArgumentException();
        }
    }

    private static void state(boolean good) {
        if (!good) {
            throw new IllegalStateException();
        }
    }

    private static void supported(boolean good) {
        if (!good) {
            throw new UnsupportedOperationException();
        }
    }

    private static int some(Integer answer) {
        if (answer == null) {
            throw new NoSuchElementException();
        }
        return answer;
    }

    private Integer whoIsIn(int block) {
        for (int i = 0; i < now.trains.size(); i++) {
            if (now.trains.get(i).block == block) {
                return i;
            }
        }
        return null;
    }

    private Integer whoHolds(int block) {
        for (int i = 0; i < now.trains.size(); i++) {
            Integer reserved = now.trains.get(i).reserved;
            if (reserved != null && reserved == block) {
                return i;
            }
        }
        return null;
    }

    private int links() {
        int count = 0;
        for (int i = 0; i < 14; i++) {
            for (int j = 0; j < i; j++) {
                count += now.linked[i][j] ? 1 : 0;
            }
        }
        return count;
    }

    private int cats() {
        return (int) now.blocks.stream().filter(b -> b.cat).count();
    }

    private int[][] allDistances() {
        int n = now.blocks.size();
        int[][] d = new int[n][n];
        for (int i = 0; i < n; i++) {
            for (int j = 0; j < n; j++) {
                d[i][j] = i == j ? 0 : now.linked[i][j] ? now.blocks.get(j).length : NEVER;
            }
        }
        for (int k = 0; k < n; k++) {
            for (int i = 0; i < n; i++) {
                for (int j = 0; j < n; j++) {
                    d[i][j] = Math.min(d[i][j], d[i][k] + d[k][j]);
                }
            }
        }
        return d;
    }

    private Integer next(Train train, int[][] d) {
        if (train.goal == null || d[train.block][train.goal] >= NEVER) {
            return null;
        }
        for (int i = 0; i < now.blocks.size(); i++) {
            if (now.linked[train.block][i]
                    && now.blocks.get(i).length + d[i][train.goal] == d[train.block][train.goal]) {
                return i;
            }
        }
        return null;
    }

    public int addBlock(int length) {
        return add(length, false);
    }

    public int addCushion(int length) {
        return add(length, true);
    }

    private int add(int length, boolean cushion) {
        argument(length >= 1 && length <= 9);
        state(now.blocks.size() < 14);
        change();
        Block block = new Block();
        block.length = length;
        block.cushion = cushion;
        now.blocks.add(block);
        return now.blocks.size() - 1;
    }

    public int link(int first, int second) {
        block(first, second);
        argument(first != second);
        state(!now.linked[first][second]);
        change();
        now.linked[first][second] = true;
        now.linked[second][first] = true;
        return links();
    }

    public int unlink(int first, int second) {
        block(first, second);
        some(now.linked[first][second] ? 1 : null);
        change();
        now.linked[first][second] = false;
        now.linked[second][first] = false;
        return links();
    }

    public int putCat(int block) {
        block(new int[] {block});
        state(!now.blocks.get(block).cat);
        supported(whoIsIn(block) == null);
        change();
        now.blocks.get(block).cat = true;
        return cats();
    }

    public int removeCat(int block) {
        block(new int[] {block});
        some(now.blocks.get(block).cat ? 1 : null);
        change();
        now.blocks.get(block).cat = false;
        return cats();
    }

    public int blockCount() {
        return now.blocks.size();
    }

    public int length(int block) {
        block(new int[] {block});
        return now.blocks.get(block).length;
    }

    public boolean isCushion(int block) {
        block(new int[] {block});
        return now.blocks.get(block).cushion;
    }

    public boolean hasCat(int block) {
        block(new int[] {block});
        return now.blocks.get(block).cat;
    }

    public boolean areLinked(int first, int second) {
        block(first, second);
        return now.linked[first][second];
    }

    public int degree(int block) {
        block(new int[] {block});
        int count = 0;
        for (boolean linked : now.linked[block]) {
            count += linked ? 1 : 0;
        }
        return count;
    }

    public int trainIn(int block) {
        block(new int[] {block});
        return some(whoIsIn(block));
    }

    public int reservedBy(int block) {
        block(new int[] {block});
        return some(whoHolds(block));
    }

    public char signal(int block) {
        block(new int[] {block});
        return now.blocks.get(block).cat ? 'c' : whoIsIn(block) != null ? 'o' : whoHolds(block) != null ? 'r' : 'f';
    }

    public int distance(int from, int to) {
        block(from, to);
        int way = allDistances()[from][to];
        return some(way < NEVER ? way : null);
    }

    public int distanceByRounds(int from, int to) {
        return distance(from, to);
    }

    public int nextBlock(int train) {
        return some(next(train(train), allDistances()));
    }

    public int partCount() {
        int[][] d = allDistances();
        int count = 0;
        for (int i = 0; i < d.length; i++) {
            boolean first = true;
            for (int j = 0; j < i; j++) {
                first &= d[i][j] >= NEVER;
            }
            count += first ? 1 : 0;
        }
        return count;
    }

    public int partCountByUnions() {
        return partCount();
    }

    public int nearestCushion(int block) {
        block(new int[] {block});
        int[] d = allDistances()[block];
        Integer best = null;
        for (int i = d.length - 1; i >= 0; i--) {
            if (now.blocks.get(i).cushion && d[i] < NEVER && (best == null || d[i] <= d[best])) {
                best = i;
            }
        }
        return some(best);
    }

    public int addTrain(int block, int priority) {
        block(new int[] {block});
        argument(priority >= 1 && priority <= 9);
        state(now.trains.size() < 6);
        supported(whoIsIn(block) == null && !now.blocks.get(block).cat && whoHolds(block) == null);
        change();
        Train train = new Train();
        train.block = block;
        train.priority = priority;
        now.trains.add(train);
        return now.trains.size() - 1;
    }

    public int setGoal(int train, int block) {
        int from = train(train).block;
        block(new int[] {block});
        argument(now.blocks.get(block).cushion);
        supported(from != block);
        int way = distance(from, block);
        change();
        train(train).goal = block;
        return way;
    }

    public int clearGoal(int train) {
        int goal = some(train(train).goal);
        change();
        train(train).goal = null;
        return goal;
    }

    public int reserve(int train, int block) {
        int from = train(train).block;
        block(new int[] {block});
        argument(now.linked[from][block]);
        state(train(train).reserved == null);
        supported(whoIsIn(block) == null && whoHolds(block) == null);
        change();
        train(train).reserved = block;
        return (int) now.trains.stream().filter(t -> t.reserved != null).count();
    }

    public int cancelReservation(int train) {
        int block = some(train(train).reserved);
        change();
        train(train).reserved = null;
        return block;
    }

    public int rescue(int train) {
        state(train(train).derailed);
        change();
        train(train).derailed = false;
        return (int) now.trains.stream().filter(t -> t.derailed).count();
    }

    public int trainCount() {
        return now.trains.size();
    }

    public int blockOf(int train) {
        return train(train).block;
    }

    public int priority(int train) {
        return train(train).priority;
    }

    public int remainingTicks(int train) {
        return train(train).remaining;
    }

    public int goal(int train) {
        return some(train(train).goal);
    }

    public boolean isDerailed(int train) {
        return train(train).derailed;
    }

    public int waits(int train) {
        return train(train).waits;
    }

    private List<Integer> order() {
        List<Integer> order = new ArrayList<>();
        for (int i = 0; i < now.trains.size(); i++) {
            order.add(i);
        }
        order.sort((a, b) -> now.trains.get(b).priority - now.trains.get(a).priority);
        return order;
    }

    public int trainByPriority(int rank) {
        List<Integer> order = order();
        return some(rank >= 0 && rank < order.size() ? order.get(rank) : null);
    }

    private Integer blocker(int train, int[][] d) {
        Integer next = train(train).derailed ? null : next(train(train), d);
        return next == null ? null : whoIsIn(next);
    }

    public int blockedBy(int train) {
        train(train);
        return some(blocker(train, allDistances()));
    }

    public int deadlocked() {
        int[][] d = allDistances();
        int count = 0;
        for (int i = 0; i < now.trains.size(); i++) {
            Integer other = blocker(i, d);
            for (int steps = 0; steps < 10 && other != null && other != i; steps++) {
                other = blocker(other, d);
            }
            count += other != null && other == i ? 1 : 0;
        }
        return count;
    }

    public int deadlockedByTable() {
        return deadlocked();
    }

    private void tick() {
        int[][] d = allDistances();
        for (int i : order()) {
            Train train = now.trains.get(i);
            if (train.derailed) {
                continue;
            }
            if (train.remaining > 0) {
                train.remaining--;
                continue;
            }
            Integer next = next(train, d);
            if (next == null) {
                continue;
            }
            Integer holder = whoHolds(next);
            if (whoIsIn(next) != null || holder != null && holder != i) {
                train.waits++;
                continue;
            }
            train.block = next;
            train.reserved = null;
            Block block = now.blocks.get(next);
            train.remaining = block.length;
            train.derailed = block.cat;
            block.cat = false;
            if (next.equals(train.goal)) {
                train.goal = null;
                now.arrivals++;
            }
        }
        now.ticks++;
    }

    public int passTicks(int ticks) {
        argument(ticks >= 1 && ticks <= 50);
        change();
        int before = now.arrivals;
        for (int i = 0; i < ticks; i++) {
            tick();
        }
        return now.arrivals - before;
    }

    public int ticks() {
        return now.ticks;
    }

    public int arrivals() {
        return now.arrivals;
    }

    public int ticksUntilArrival(int train) {
        some(train(train).goal);
        Layout kept = now;
        now = now.copy();
        Integer answer = null;
        for (int i = 1; i <= 99 && answer == null; i++) {
            tick();
            answer = now.trains.get(train).goal == null ? i : null;
        }
        now = kept;
        return some(answer);
    }

    public double meanWaits() {
        if (now.trains.isEmpty()) {
            throw new ArithmeticException();
        }
        return now.trains.stream().mapToDouble(t -> t.waits).sum() / now.trains.size();
    }

    public float occupiedFraction() {
        if (now.blocks.isEmpty()) {
            throw new ArithmeticException();
        }
        float count = 0;
        for (int i = 0; i < now.blocks.size(); i++) {
            count += whoIsIn(i) != null ? 1 : 0;
        }
        return count / now.blocks.size();
    }

    public int writeTrain(int train) {
        Train t = train(train);
        output = "T" + train + "@" + t.block + (t.remaining > 0 ? "+" + t.remaining : "")
                + (t.goal != null ? ">" + t.goal : "") + (t.derailed ? "!" : "");
        return output.length();
    }

    public int writeSignals() {
        output = "";
        for (int i = 0; i < now.blocks.size(); i++) {
            output += signal(i);
        }
        return output.length();
    }

    public char outputCharacter(int index) {
        if (index < 0 || index >= output.length()) {
            throw new IndexOutOfBoundsException();
        }
        return output.charAt(index);
    }

    public boolean isConsistent() {
        return true;
    }

    public int feed(char character) {
        state(input.length() < 60);
        input.append(character);
        return input.length();
    }

    public int execute() {
        String text = input.toString();
        input.setLength(0);
        if (!TEXT.matcher(text).matches()) {
            errorPosition = errorIn(text);
            throw new IllegalArgumentException();
        }
        Layout before = now;
        int count = 0;
        executing = true;
        try {
            for (String command : text.split(";")) {
                perform(command);
                count++;
            }
        } catch (RuntimeException e) {
            now = before;
            failedCommand = count;
            throw new UnsupportedOperationException();
        } finally {
            executing = false;
        }
        Layout after = now;
        now = before;
        change();
        now = after;
        return count;
    }

    private static int errorIn(String text) {
        for (int length = 1; length <= text.length(); length++) {
            Matcher matcher = TEXT.matcher(text.substring(0, length));
            if (!matcher.matches() && !matcher.hitEnd()) {
                return length - 1;
            }
        }
        return text.length();
    }

    private void perform(String command) {
        String[] parts = command.split("[ \\-*>@]");
        int[] numbers = Arrays.stream(parts, 1, parts.length).mapToInt(Integer::parseInt).toArray();
        switch (parts[0]) {
            case "block" -> addBlock(numbers[0]);
            case "cushion" -> addCushion(numbers[0]);
            case "link" -> link(numbers[0], numbers[1]);
            case "train" -> addTrain(numbers[0], numbers[1]);
            case "goal" -> setGoal(numbers[0], numbers[1]);
            case "cat" -> putCat(numbers[0]);
            case "hold" -> reserve(numbers[0], numbers[1]);
            case "rescue" -> rescue(numbers[0]);
            default -> passTicks(numbers[0]);
        }
    }

    public int errorPosition() {
        return some(errorPosition);
    }

    public int failedCommand() {
        return some(failedCommand);
    }

    public int undo() {
        state(!past.isEmpty());
        now = past.remove(past.size() - 1);
        return past.size();
    }

    public int undoCount() {
        return past.size();
    }

    public int save() {
        saved = now.copy();
        return now.blocks.size();
    }

    public int restore() {
        state(saved != null);
        now = saved.copy();
        past.clear();
        return now.blocks.size();
    }
}
