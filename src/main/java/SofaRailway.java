import java.util.NoSuchElementException;

/**
 * A model railway on a sofa: linked blocks, cushions as stations, trains with priorities and goals,
 * reservations, cats that derail trains, ticks, text commands and undo.
 */
public final class SofaRailway {
    private static final int MAX_BLOCKS = 14;
    private static final int MAX_LENGTH = 9;
    private static final int MAX_TRAINS = 6;
    private static final int MAX_PRIORITY = 9;
    private static final int MAX_TICKS = 50;
    private static final int MAX_FORECAST = 99;
    private static final int MAX_INPUT = 60;
    private static final int MAX_UNDO = 8;
    /** One slot more than can be undone, for the change that is being tried. */
    private static final int UNDO_SLOTS = MAX_UNDO + 1;
    /** Fourteen signals are the longest output; a train needs eleven characters at the most. */
    private static final int MAX_OUTPUT = MAX_BLOCKS;

    private static final int NONE = -1;
    /** Longer than any route, which has at most thirteen blocks of length 9 behind its first one. */
    private static final int FAR = 1000;

    // Refusals: what a change answers when it was not made. They differ from NONE and from every answer.
    private static final int NO_INDEX = -11;
    private static final int BAD_ARGUMENT = -12;
    private static final int BAD_STATE = -13;
    private static final int UNSUPPORTED = -14;
    private static final int NOT_FOUND = -15;

    private static final Command[] COMMANDS = Command.values();

    private final Layout now = new Layout();
    private final Layout saved = new Layout();
    private final Layout forecast = new Layout();
    private final History history = new History();
    private final Routes routes = new Routes();
    private final Traffic traffic = new Traffic();
    private final CommandReader reader = new CommandReader();
    private final Output output = new Output();
    private boolean hasSaved = false;
    private int keptErrorPosition = NONE;
    private int keptFailedCommand = NONE;

    public SofaRailway() {
    }

    // Blocks

    public int addBlock(int length) throws IllegalArgumentException, IllegalStateException {
        history.keep(now);
        return changed(now.placeBlock(length, false));
    }

    public int addCushion(int length) throws IllegalArgumentException, IllegalStateException {
        history.keep(now);
        return changed(now.placeBlock(length, true));
    }

    public int link(int first, int second)
            throws IndexOutOfBoundsException, IllegalArgumentException, IllegalStateException {
        history.keep(now);
        return changed(now.join(first, second));
    }

    public int unlink(int first, int second) throws IndexOutOfBoundsException, NoSuchElementException {
        history.keep(now);
        return changed(now.separate(first, second));
    }

    public int putCat(int block)
            throws IndexOutOfBoundsException, IllegalStateException, UnsupportedOperationException {
        history.keep(now);
        return changed(now.seatCat(block));
    }

    public int removeCat(int block) throws IndexOutOfBoundsException, NoSuchElementException {
        history.keep(now);
        return changed(now.liftCat(block));
    }

    public int blockCount() {
        return now.blocks;
    }

    public int length(int block) throws IndexOutOfBoundsException {
        needBlock(block);
        return now.lengths[block];
    }

    public boolean isCushion(int block) throws IndexOutOfBoundsException {
        needBlock(block);
        return has(now.cushions, block);
    }

    public boolean hasCat(int block) throws IndexOutOfBoundsException {
        needBlock(block);
        return has(now.cats, block);
    }

    public boolean areLinked(int first, int second) throws IndexOutOfBoundsException {
        needBlock(first);
        needBlock(second);
        return now.isJoined(first, second);
    }

    public int degree(int block) throws IndexOutOfBoundsException {
        needBlock(block);
        return Integer.bitCount(now.links[block]);
    }

    public int trainIn(int block) throws IndexOutOfBoundsException, NoSuchElementException {
        needBlock(block);
        return found(now.trainAt(block));
    }

    public int reservedBy(int block) throws IndexOutOfBoundsException, NoSuchElementException {
        needBlock(block);
        return found(now.holderOf(block));
    }

    public char signal(int block) throws IndexOutOfBoundsException {
        needBlock(block);
        return now.signalOf(block);
    }

    // Routes

    public int distance(int from, int to) throws IndexOutOfBoundsException, NoSuchElementException {
        needBlock(from);
        needBlock(to);
        routes.measureByNearest(now, from);
        return found(routes.byNearest[to] < FAR ? routes.byNearest[to] : NONE);
    }

    public int distanceByRounds(int from, int to) throws IndexOutOfBoundsException, NoSuchElementException {
        needBlock(from);
        needBlock(to);
        routes.measureByRounds(now, from);
        return found(routes.byRounds[to] < FAR ? routes.byRounds[to] : NONE);
    }

    public int nextBlock(int train) throws IndexOutOfBoundsException, NoSuchElementException {
        needTrain(train);
        return found(routes.nextFor(now, train));
    }

    public int partCount() {
        return routes.partsByWalks(now);
    }

    public int partCountByUnions() {
        return routes.partsByUnions(now);
    }

    public int nearestCushion(int block) throws IndexOutOfBoundsException, NoSuchElementException {
        needBlock(block);
        return found(routes.cushionNear(now, block));
    }

    // Trains

    public int addTrain(int block, int priority) throws IndexOutOfBoundsException, IllegalArgumentException,
            IllegalStateException, UnsupportedOperationException {
        history.keep(now);
        return changed(now.placeTrain(block, priority));
    }

    public int setGoal(int train, int block) throws IndexOutOfBoundsException, IllegalArgumentException,
            UnsupportedOperationException, NoSuchElementException {
        history.keep(now);
        return changed(traffic.aim(now, train, block));
    }

    public int clearGoal(int train) throws IndexOutOfBoundsException, NoSuchElementException {
        history.keep(now);
        return changed(now.dropGoal(train));
    }

    public int reserve(int train, int block) throws IndexOutOfBoundsException, IllegalArgumentException,
            IllegalStateException, UnsupportedOperationException {
        history.keep(now);
        return changed(now.hold(train, block));
    }

    public int cancelReservation(int train) throws IndexOutOfBoundsException, NoSuchElementException {
        history.keep(now);
        return changed(now.release(train));
    }

    public int rescue(int train) throws IndexOutOfBoundsException, IllegalStateException {
        history.keep(now);
        return changed(now.rerail(train));
    }

    public int trainCount() {
        return now.trains;
    }

    public int blockOf(int train) throws IndexOutOfBoundsException {
        needTrain(train);
        return now.places[train];
    }

    public int priority(int train) throws IndexOutOfBoundsException {
        needTrain(train);
        return now.priorities[train];
    }

    public int remainingTicks(int train) throws IndexOutOfBoundsException {
        needTrain(train);
        return now.remaining[train];
    }

    public int goal(int train) throws IndexOutOfBoundsException, NoSuchElementException {
        needTrain(train);
        return found(now.goals[train]);
    }

    public boolean isDerailed(int train) throws IndexOutOfBoundsException {
        needTrain(train);
        return has(now.derailed, train);
    }

    public int waits(int train) throws IndexOutOfBoundsException {
        needTrain(train);
        return now.waits[train];
    }

    public int trainByPriority(int rank) throws NoSuchElementException {
        return found(now.trainAtRank(rank));
    }

    public int blockedBy(int train) throws IndexOutOfBoundsException, NoSuchElementException {
        needTrain(train);
        return found(traffic.blockerOf(now, train));
    }

    public int deadlocked() {
        return traffic.stuckByFollowing(now);
    }

    public int deadlockedByTable() {
        return traffic.stuckByTable(now);
    }

    // Ticks, statistics and output

    public int passTicks(int ticks) throws IllegalArgumentException {
        history.keep(now);
        return changed(traffic.letPass(now, ticks));
    }

    public int ticks() {
        return now.ticks;
    }

    public int arrivals() {
        return now.arrivals;
    }

    public int ticksUntilArrival(int train) throws IndexOutOfBoundsException, NoSuchElementException {
        needTrain(train);
        if (now.goals[train] == NONE) {
            throw new NoSuchElementException("the train has no goal");
        }
        forecast.copyFrom(now);
        return found(traffic.ticksToGoal(forecast, train));
    }

    public double meanWaits() throws ArithmeticException {
        if (now.trains == 0) {
            throw new ArithmeticException("there are no trains");
        }
        return (double) now.allWaits() / (double) now.trains;
    }

    public float occupiedFraction() throws ArithmeticException {
        if (now.blocks == 0) {
            throw new ArithmeticException("there are no blocks");
        }
        // Two trains are never in the same block, so as many blocks are occupied as there are trains.
        return (float) now.trains / (float) now.blocks;
    }

    public int writeTrain(int train) throws IndexOutOfBoundsException {
        needTrain(train);
        output.clear();
        output.putMarked('T', train);
        output.putMarked('@', now.places[train]);
        if (now.remaining[train] > 0) {
            output.putMarked('+', now.remaining[train]);
        }
        if (now.goals[train] != NONE) {
            output.putMarked('>', now.goals[train]);
        }
        if (has(now.derailed, train)) {
            output.put('!');
        }
        return output.size;
    }

    public int writeSignals() {
        output.clear();
        for (int block = 0; block < now.blocks; block++) {
            output.put(now.signalOf(block));
        }
        return output.size;
    }

    public char outputCharacter(int index) throws IndexOutOfBoundsException {
        if (index < 0 || index >= output.size) {
            throw new IndexOutOfBoundsException("there is no such character");
        }
        return output.signs[index];
    }

    public boolean isConsistent() {
        return routes.distancesAgree(now)
                && routes.partsByWalks(now) == routes.partsByUnions(now)
                && traffic.stuckByFollowing(now) == traffic.stuckByTable(now);
    }

    // Commands, undo and saved state

    public int feed(char character) throws IllegalStateException {
        if (!reader.append(character)) {
            throw new IllegalStateException("the input buffer is full");
        }
        return reader.size;
    }

    public int execute() throws IllegalArgumentException, UnsupportedOperationException {
        int error = reader.findError();
        if (error != NONE) {
            keptErrorPosition = error;
            reader.clear();
            throw new IllegalArgumentException("the text is malformed");
        }
        history.keep(now);
        boolean failed = false;
        int done = 0;
        reader.rewind();
        while (!failed && done < MAX_INPUT && reader.readCommand()) {
            failed = perform(reader.command, reader.first, reader.second) < 0;
            if (!failed) {
                done++;
            }
        }
        reader.clear();
        if (failed) {
            history.revert(now);
            keptFailedCommand = done;
            throw new UnsupportedOperationException("a command failed");
        }
        return changed(done);
    }

    public int errorPosition() throws NoSuchElementException {
        return found(keptErrorPosition);
    }

    public int failedCommand() throws NoSuchElementException {
        return found(keptFailedCommand);
    }

    public int undo() throws IllegalStateException {
        if (history.count == 0) {
            throw new IllegalStateException("there is nothing to undo");
        }
        return history.stepBack(now);
    }

    public int undoCount() {
        return history.count;
    }

    public int save() {
        saved.copyFrom(now);
        hasSaved = true;
        return now.blocks;
    }

    public int restore() throws IllegalStateException {
        if (!hasSaved) {
            throw new IllegalStateException("nothing was saved");
        }
        now.copyFrom(saved);
        history.forget();
        return now.blocks;
    }

    // Helpers of the face

    private void needBlock(int block) {
        if (!now.isBlock(block)) {
            throw new IndexOutOfBoundsException("there is no such block");
        }
    }

    private void needTrain(int train) {
        if (!now.isTrain(train)) {
            throw new IndexOutOfBoundsException("there is no such train");
        }
    }

    /** A set of blocks or trains is a number in which the bit of each member is set. */
    private static boolean has(int set, int member) {
        return (set >> member & 1) != 0;
    }

    private static int found(int answer) {
        if (answer == NONE) {
            throw new NoSuchElementException("there is none");
        }
        return answer;
    }

    /** Throws what a refusal stands for; otherwise the change was made and can be undone from now on. */
    private int changed(int answer) {
        if (answer == NO_INDEX) {
            throw new IndexOutOfBoundsException("there is no such block or train");
        }
        if (answer == BAD_ARGUMENT) {
            throw new IllegalArgumentException("this argument is not allowed");
        }
        if (answer == BAD_STATE) {
            throw new IllegalStateException("the railway is not in the state for this");
        }
        if (answer == UNSUPPORTED) {
            throw new UnsupportedOperationException("the block does not allow this");
        }
        if (answer == NOT_FOUND) {
            throw new NoSuchElementException("there is none");
        }
        history.confirm();
        return answer;
    }

    /** Returns a refusal if the call that the command stands for would throw. */
    private int perform(Command command, int first, int second) {
        switch (command) {
            case BLOCK:
                return now.placeBlock(first, false);
            case CUSHION:
                return now.placeBlock(first, true);
            case LINK:
                return now.join(first, second);
            case TRAIN:
                return now.placeTrain(first, second);
            case GOAL:
                return traffic.aim(now, first, second);
            case CAT:
                return now.seatCat(first);
            case HOLD:
                return now.hold(first, second);
            case RESCUE:
                return now.rerail(first);
            case TICK:
                return traffic.letPass(now, first);
            default:
                return UNSUPPORTED;
        }
    }

    /**
     * Everything that changes can change. A change answers what its call returns, or a refusal, and then it has
     * changed nothing. Counts of blocks and trains go down only by copyFrom, so what is added finds its place in the
     * sets empty.
     */
    private static final class Layout {
        int blocks = 0;
        int trains = 0;
        int ticks = 0;
        int arrivals = 0;
        /** The set of the blocks that are cushions. */
        int cushions = 0;
        /** The set of the blocks with a cat. */
        int cats = 0;
        /** The set of the derailed trains. */
        int derailed = 0;
        final int[] lengths = new int[MAX_BLOCKS];
        /** For each block the set of the blocks that are linked with it. */
        final int[] links = new int[MAX_BLOCKS];
        final int[] places = new int[MAX_TRAINS];
        final int[] priorities = new int[MAX_TRAINS];
        final int[] remaining = new int[MAX_TRAINS];
        /** For each train a block, or NONE. */
        final int[] goals = new int[MAX_TRAINS];
        /** For each train a block, or NONE. */
        final int[] holds = new int[MAX_TRAINS];
        final int[] waits = new int[MAX_TRAINS];

        void copyFrom(Layout other) {
            blocks = other.blocks;
            trains = other.trains;
            ticks = other.ticks;
            arrivals = other.arrivals;
            cushions = other.cushions;
            cats = other.cats;
            derailed = other.derailed;
            System.arraycopy(other.lengths, 0, lengths, 0, MAX_BLOCKS);
            System.arraycopy(other.links, 0, links, 0, MAX_BLOCKS);
            System.arraycopy(other.places, 0, places, 0, MAX_TRAINS);
            System.arraycopy(other.priorities, 0, priorities, 0, MAX_TRAINS);
            System.arraycopy(other.remaining, 0, remaining, 0, MAX_TRAINS);
            System.arraycopy(other.goals, 0, goals, 0, MAX_TRAINS);
            System.arraycopy(other.holds, 0, holds, 0, MAX_TRAINS);
            System.arraycopy(other.waits, 0, waits, 0, MAX_TRAINS);
        }

        boolean isBlock(int block) {
            return block >= 0 && block < blocks;
        }

        boolean isTrain(int train) {
            return train >= 0 && train < trains;
        }

        boolean isJoined(int first, int second) {
            return has(links[first], second);
        }

        int trainAt(int block) {
            for (int train = 0; train < trains; train++) {
                if (places[train] == block) {
                    return train;
                }
            }
            return NONE;
        }

        int holderOf(int block) {
            for (int train = 0; train < trains; train++) {
                if (holds[train] == block) {
                    return train;
                }
            }
            return NONE;
        }

        char signalOf(int block) {
            if (has(cats, block)) {
                return 'c';
            }
            if (trainAt(block) != NONE) {
                return 'o';
            }
            return holderOf(block) != NONE ? 'r' : 'f';
        }

        /** Returns NONE if there is no such rank. */
        int trainAtRank(int rank) {
            int passed = 0;
            for (int priority = MAX_PRIORITY; priority >= 1; priority--) {
                for (int train = 0; train < trains; train++) {
                    if (priorities[train] == priority) {
                        if (passed == rank) {
                            return train;
                        }
                        passed++;
                    }
                }
            }
            return NONE;
        }

        int allWaits() {
            int sum = 0;
            for (int train = 0; train < trains; train++) {
                sum += waits[train];
            }
            return sum;
        }

        int placeBlock(int blockLength, boolean asCushion) {
            if (blockLength < 1 || blockLength > MAX_LENGTH) {
                return BAD_ARGUMENT;
            }
            if (blocks >= MAX_BLOCKS) {
                return BAD_STATE;
            }
            int block = blocks;
            lengths[block] = blockLength;
            if (asCushion) {
                cushions |= 1 << block;
            }
            blocks++;
            return block;
        }

        int join(int first, int second) {
            if (!isBlock(first) || !isBlock(second)) {
                return NO_INDEX;
            }
            if (first == second) {
                return BAD_ARGUMENT;
            }
            if (isJoined(first, second)) {
                return BAD_STATE;
            }
            links[first] |= 1 << second;
            links[second] |= 1 << first;
            return countLinks();
        }

        int separate(int first, int second) {
            if (!isBlock(first) || !isBlock(second)) {
                return NO_INDEX;
            }
            if (!isJoined(first, second)) {
                return NOT_FOUND;
            }
            links[first] &= ~(1 << second);
            links[second] &= ~(1 << first);
            return countLinks();
        }

        int seatCat(int block) {
            if (!isBlock(block)) {
                return NO_INDEX;
            }
            if (has(cats, block)) {
                return BAD_STATE;
            }
            if (trainAt(block) != NONE) {
                return UNSUPPORTED;
            }
            cats |= 1 << block;
            return Integer.bitCount(cats);
        }

        int liftCat(int block) {
            if (!isBlock(block)) {
                return NO_INDEX;
            }
            if (!has(cats, block)) {
                return NOT_FOUND;
            }
            cats &= ~(1 << block);
            return Integer.bitCount(cats);
        }

        int placeTrain(int block, int trainPriority) {
            if (!isBlock(block)) {
                return NO_INDEX;
            }
            if (trainPriority < 1 || trainPriority > MAX_PRIORITY) {
                return BAD_ARGUMENT;
            }
            if (trains >= MAX_TRAINS) {
                return BAD_STATE;
            }
            if (trainAt(block) != NONE || has(cats, block) || holderOf(block) != NONE) {
                return UNSUPPORTED;
            }
            int train = trains;
            places[train] = block;
            priorities[train] = trainPriority;
            remaining[train] = 0;
            goals[train] = NONE;
            holds[train] = NONE;
            waits[train] = 0;
            trains++;
            return train;
        }

        int dropGoal(int train) {
            if (!isTrain(train)) {
                return NO_INDEX;
            }
            int old = goals[train];
            if (old == NONE) {
                return NOT_FOUND;
            }
            goals[train] = NONE;
            return old;
        }

        int hold(int train, int block) {
            if (!isTrain(train) || !isBlock(block)) {
                return NO_INDEX;
            }
            if (!isJoined(places[train], block)) {
                return BAD_ARGUMENT;
            }
            if (holds[train] != NONE) {
                return BAD_STATE;
            }
            if (trainAt(block) != NONE || holderOf(block) != NONE) {
                return UNSUPPORTED;
            }
            holds[train] = block;
            return countHolds();
        }

        int release(int train) {
            if (!isTrain(train)) {
                return NO_INDEX;
            }
            int old = holds[train];
            if (old == NONE) {
                return NOT_FOUND;
            }
            holds[train] = NONE;
            return old;
        }

        int rerail(int train) {
            if (!isTrain(train)) {
                return NO_INDEX;
            }
            if (!has(derailed, train)) {
                return BAD_STATE;
            }
            derailed &= ~(1 << train);
            return Integer.bitCount(derailed);
        }

        /** Whether neither another train nor its reservation keeps a train out of a block. */
        boolean letsIn(int train, int block) {
            int holder = holderOf(block);
            return trainAt(block) == NONE && (holder == NONE || holder == train);
        }

        void moveTrain(int train, int block) {
            places[train] = block;
            holds[train] = NONE;
            remaining[train] = lengths[block];
            if (has(cats, block)) {
                derailed |= 1 << train;
                cats &= ~(1 << block);
            }
            if (goals[train] == block) {
                goals[train] = NONE;
                arrivals++;
            }
        }

        private int countLinks() {
            int ends = 0;
            for (int block = 0; block < blocks; block++) {
                ends += Integer.bitCount(links[block]);
            }
            return ends / 2;
        }

        private int countHolds() {
            int count = 0;
            for (int train = 0; train < trains; train++) {
                if (holds[train] != NONE) {
                    count++;
                }
            }
            return count;
        }
    }

    /** Routes and parts of a layout, measured in rows that are used again and again. */
    private static final class Routes {
        /** The distances that measureByNearest found, FAR where there is no route. */
        final int[] byNearest = new int[MAX_BLOCKS];
        /** The distances that measureByRounds found, FAR where there is no route. */
        final int[] byRounds = new int[MAX_BLOCKS];
        private final int[] groups = new int[MAX_BLOCKS];

        void measureByNearest(Layout layout, int from) {
            for (int block = 0; block < layout.blocks; block++) {
                byNearest[block] = block == from ? 0 : FAR;
            }
            int settled = 0;
            for (int step = 0; step < layout.blocks; step++) {
                int nearest = nearestOpen(layout.blocks, settled);
                if (nearest == NONE) {
                    return;
                }
                settled |= 1 << nearest;
                for (int block = 0; block < layout.blocks; block++) {
                    int way = byNearest[nearest] + layout.lengths[block];
                    if (has(layout.links[nearest], block) && way < byNearest[block]) {
                        byNearest[block] = way;
                    }
                }
            }
        }

        /** The block with the smallest distance that is reached and not yet settled, or NONE. */
        private int nearestOpen(int blocks, int settled) {
            int nearest = NONE;
            int least = FAR;
            for (int block = 0; block < blocks; block++) {
                if ((settled >> block & 1) == 0 && byNearest[block] < least) {
                    nearest = block;
                    least = byNearest[block];
                }
            }
            return nearest;
        }

        void measureByRounds(Layout layout, int from) {
            for (int block = 0; block < layout.blocks; block++) {
                byRounds[block] = block == from ? 0 : FAR;
            }
            boolean shorter = true;
            // A shortest route has fewer links than there are blocks, so that many rounds are always enough.
            for (int round = 0; round <= layout.blocks && shorter; round++) {
                shorter = false;
                for (int block = 0; block < layout.blocks; block++) {
                    if (shortenFrom(layout, block)) {
                        shorter = true;
                    }
                }
            }
        }

        /** Returns whether a link of a block led to a shorter distance. */
        private boolean shortenFrom(Layout layout, int block) {
            if (byRounds[block] >= FAR) {
                return false;
            }
            boolean shorter = false;
            for (int other = 0; other < layout.blocks; other++) {
                int way = byRounds[block] + layout.lengths[other];
                if (layout.isJoined(block, other) && way < byRounds[other]) {
                    byRounds[other] = way;
                    shorter = true;
                }
            }
            return shorter;
        }

        boolean distancesAgree(Layout layout) {
            for (int from = 0; from < layout.blocks; from++) {
                measureByNearest(layout, from);
                measureByRounds(layout, from);
                for (int to = 0; to < layout.blocks; to++) {
                    if (byNearest[to] != byRounds[to]) {
                        return false;
                    }
                }
            }
            return true;
        }

        /** The next block of a train, or NONE. */
        int nextFor(Layout layout, int train) {
            int goal = layout.goals[train];
            int place = layout.places[train];
            if (goal == NONE || goal == place) {
                return NONE;
            }
            // Measured from the goal backwards, because a block's distance from the goal is the length of the rest
            // of the route with the block itself counted and the goal not: the goal is in all of them, so the
            // shortest route begins with the linked block that has the smallest distance from the goal.
            measureByNearest(layout, goal);
            int next = NONE;
            int least = FAR;
            for (int block = 0; block < layout.blocks; block++) {
                if (layout.isJoined(place, block) && byNearest[block] < least) {
                    next = block;
                    least = byNearest[block];
                }
            }
            return next;
        }

        /** The nearest cushion, or NONE. */
        int cushionNear(Layout layout, int from) {
            measureByNearest(layout, from);
            int cushion = NONE;
            int least = FAR;
            for (int block = 0; block < layout.blocks; block++) {
                if (has(layout.cushions, block) && byNearest[block] < least) {
                    cushion = block;
                    least = byNearest[block];
                }
            }
            return cushion;
        }

        int partsByWalks(Layout layout) {
            int parts = 0;
            int seen = 0;
            for (int block = 0; block < layout.blocks; block++) {
                if (!has(seen, block)) {
                    parts++;
                    seen = walk(layout, block, seen, 0);
                }
            }
            return parts;
        }

        /** Returns the set of the seen blocks and those that can be reached from a block around them. */
        private static int walk(Layout layout, int block, int seen, int depth) {
            if (depth >= MAX_BLOCKS) {
                return seen;
            }
            int reached = seen | 1 << block;
            for (int other = 0; other < layout.blocks; other++) {
                if (layout.isJoined(block, other) && !has(reached, other)) {
                    reached = walk(layout, other, reached, depth + 1);
                }
            }
            return reached;
        }

        int partsByUnions(Layout layout) {
            for (int block = 0; block < layout.blocks; block++) {
                groups[block] = block;
            }
            int parts = layout.blocks;
            for (int first = 0; first < layout.blocks; first++) {
                for (int second = 0; second < first; second++) {
                    if (layout.isJoined(first, second) && groups[first] != groups[second]) {
                        unite(layout.blocks, groups[first], groups[second]);
                        parts--;
                    }
                }
            }
            return parts;
        }

        private void unite(int blocks, int oldGroup, int newGroup) {
            for (int block = 0; block < blocks; block++) {
                if (groups[block] == oldGroup) {
                    groups[block] = newGroup;
                }
            }
        }
    }

    /** What trains do on a layout: their goals, their moves, and how they block each other. */
    private static final class Traffic {
        private final Routes routes = new Routes();
        /** For each train the train by which it is blocked, or NONE. */
        private final int[] blockers = new int[MAX_TRAINS];
        /** For each train the set of the trains that block it, directly or over other ones. */
        private final int[] table = new int[MAX_TRAINS];

        int aim(Layout layout, int train, int block) {
            if (!layout.isTrain(train) || !layout.isBlock(block)) {
                return NO_INDEX;
            }
            if (!has(layout.cushions, block)) {
                return BAD_ARGUMENT;
            }
            if (layout.places[train] == block) {
                return UNSUPPORTED;
            }
            routes.measureByNearest(layout, layout.places[train]);
            int way = routes.byNearest[block];
            if (way >= FAR) {
                return NOT_FOUND;
            }
            layout.goals[train] = block;
            return way;
        }

        int letPass(Layout layout, int count) {
            if (count < 1 || count > MAX_TICKS) {
                return BAD_ARGUMENT;
            }
            int before = layout.arrivals;
            for (int tick = 0; tick < count; tick++) {
                for (int rank = 0; rank < layout.trains; rank++) {
                    consider(layout, layout.trainAtRank(rank));
                }
                layout.ticks++;
            }
            return layout.arrivals - before;
        }

        private void consider(Layout layout, int train) {
            if (!layout.isTrain(train) || has(layout.derailed, train)) {
                return;
            }
            if (layout.remaining[train] > 0) {
                layout.remaining[train]--;
                return;
            }
            int next = routes.nextFor(layout, train);
            if (next == NONE) {
                return;
            }
            if (layout.letsIn(train, next)) {
                layout.moveTrain(train, next);
            } else {
                layout.waits[train]++;
            }
        }

        /** Lets ticks pass until a train with a goal arrives; returns their number, or NONE if it takes too long. */
        int ticksToGoal(Layout layout, int train) {
            for (int tick = 1; tick <= MAX_FORECAST; tick++) {
                letPass(layout, 1);
                if (layout.goals[train] == NONE) {
                    return tick;
                }
            }
            return NONE;
        }

        /** The train by which a train is blocked, or NONE. */
        int blockerOf(Layout layout, int train) {
            if (has(layout.derailed, train)) {
                return NONE;
            }
            int next = routes.nextFor(layout, train);
            return next == NONE ? NONE : layout.trainAt(next);
        }

        int stuckByFollowing(Layout layout) {
            for (int train = 0; train < layout.trains; train++) {
                blockers[train] = blockerOf(layout, train);
            }
            int stuck = 0;
            for (int train = 0; train < layout.trains; train++) {
                if (leadsBack(train, layout.trains)) {
                    stuck++;
                }
            }
            return stuck;
        }

        private boolean leadsBack(int train, int trains) {
            int current = train;
            for (int step = 0; step < trains; step++) {
                current = blockers[current];
                if (current == train) {
                    return true;
                }
                if (current == NONE) {
                    return false;
                }
            }
            return false;
        }

        int stuckByTable(Layout layout) {
            for (int train = 0; train < layout.trains; train++) {
                int blocker = blockerOf(layout, train);
                table[train] = blocker == NONE ? 0 : 1 << blocker;
            }
            for (int over = 0; over < layout.trains; over++) {
                for (int train = 0; train < layout.trains; train++) {
                    if (has(table[train], over)) {
                        table[train] |= table[over];
                    }
                }
            }
            int stuck = 0;
            for (int train = 0; train < layout.trains; train++) {
                if (has(table[train], train)) {
                    stuck++;
                }
            }
            return stuck;
        }
    }

    /** The layouts before the latest changes, in a ring of slots. */
    private static final class History {
        private final Layout[] slots = new Layout[UNDO_SLOTS];
        private int next = 0;
        /** The number of changes that can be undone. */
        int count = 0;

        History() {
            for (int slot = 0; slot < UNDO_SLOTS; slot++) {
                slots[slot] = new Layout();
            }
        }

        /** Keeps the layout before a change that is being tried; it counts only after confirm. */
        void keep(Layout layout) {
            slots[next].copyFrom(layout);
        }

        void confirm() {
            next = (next + 1) % UNDO_SLOTS;
            count = Math.min(count + 1, MAX_UNDO);
        }

        /** Gives back the layout that was kept last and not confirmed. */
        void revert(Layout layout) {
            layout.copyFrom(slots[next]);
        }

        /** Gives back the layout before the latest confirmed change, and returns how many are left. */
        int stepBack(Layout layout) {
            next = (next + MAX_UNDO) % UNDO_SLOTS;
            layout.copyFrom(slots[next]);
            count--;
            return count;
        }

        void forget() {
            count = 0;
        }
    }

    /**
     * The commands with their forms: 1 stands for a digit, 2 for a number of one or two digits, and every other
     * character for itself.
     */
    private enum Command {
        BLOCK("block 1"),
        CUSHION("cushion 1"),
        LINK("link 2-2"),
        TRAIN("train 2*1"),
        GOAL("goal 1>2"),
        CAT("cat 2"),
        HOLD("hold 1@2"),
        RESCUE("rescue 1"),
        TICK("tick 2");

        final String form;

        Command(String form) {
            this.form = form;
        }
    }

    /** The input buffer, and the reading of the commands in it. */
    private static final class CommandReader {
        private final char[] text = new char[MAX_INPUT];
        int size = 0;
        private int position = 0;
        private boolean ended = false;
        /** The command that was read last, with its one or two numbers. */
        Command command = Command.BLOCK;
        int first = 0;
        int second = 0;

        /** Returns whether there was room. */
        boolean append(char character) {
            if (size >= MAX_INPUT) {
                return false;
            }
            text[size] = character;
            size++;
            return true;
        }

        void clear() {
            size = 0;
        }

        void rewind() {
            position = 0;
            ended = false;
        }

        /** Returns the error position of the whole text, or NONE if it is well-formed. */
        int findError() {
            rewind();
            for (int count = 0; count <= MAX_INPUT && !ended; count++) {
                if (!readCommand()) {
                    return position;
                }
            }
            return NONE;
        }

        /**
         * Reads the next command and what separates it from its follower. If there is none, returns false; then the
         * position is the error position, unless the text has ended.
         */
        boolean readCommand() {
            if (ended) {
                return false;
            }
            int furthest = position;
            for (Command candidate : COMMANDS) {
                int end = match(candidate.form, position);
                if (end >= 0) {
                    command = candidate;
                    return closeCommand(end);
                }
                // A text can go on as long as it fits one of the forms, so the form that fits longest decides.
                furthest = Math.max(furthest, ~end);
            }
            position = furthest;
            return false;
        }

        private boolean closeCommand(int end) {
            position = end;
            if (end >= size) {
                ended = true;
                return true;
            }
            if (text[end] != ';') {
                return false;
            }
            position++;
            return true;
        }

        /** Returns the index behind the form's text, or ~i if index i is the first that does not fit. */
        private int match(String form, int start) {
            int at = start;
            int numbers = 0;
            for (int i = 0; i < form.length(); i++) {
                char wanted = form.charAt(i);
                if (wanted == '1' || wanted == '2') {
                    if (!isDigit(at)) {
                        return ~at;
                    }
                    int digits = wanted == '2' && isDigit(at + 1) ? 2 : 1;
                    putNumber(numbers, at, digits);
                    numbers++;
                    at += digits;
                } else {
                    if (at >= size || text[at] != wanted) {
                        return ~at;
                    }
                    at++;
                }
            }
            return at;
        }

        private void putNumber(int which, int start, int digits) {
            int number = 0;
            for (int i = start; i < start + digits; i++) {
                number = 10 * number + text[i] - '0';
            }
            if (which == 0) {
                first = number;
            } else {
                second = number;
            }
        }

        private boolean isDigit(int index) {
            return index >= 0 && index < size && text[index] >= '0' && text[index] <= '9';
        }
    }

    /** The output, a row of characters that is written anew each time. */
    private static final class Output {
        final char[] signs = new char[MAX_OUTPUT];
        int size = 0;

        void clear() {
            size = 0;
        }

        void put(char sign) {
            if (size < MAX_OUTPUT) {
                signs[size] = sign;
                size++;
            }
        }

        /** Puts a sign and a number from 0 to 99 behind it. */
        void putMarked(char sign, int number) {
            put(sign);
            if (number >= 10) {
                put((char) ('0' + number / 10));
            }
            put((char) ('0' + number % 10));
        }
    }
}
