import java.util.Arrays;
import java.util.NoSuchElementException;

/** A hedge maze with insurance, as the numbered promises of shared/DOC.md tell it. */
public final class MazeBonds {
    private static final int NONE = -1;
    // Every answer of a change is 0 or more, so this one is free to tell a refusal.
    private static final int REFUSED = -1;

    private static final int SIDE = 4;
    private static final int CELLS = 16;
    private static final int HEDGES = 24;
    private static final int ENTRANCE = 0;
    private static final int EXIT = 15;
    private static final int MOST_LEAVES = 9;
    private static final int CLOSED_FROM = 5;

    private static final int NORTH = 0;
    private static final int EAST = 1;
    private static final int SOUTH = 2;
    private static final int WEST = 3;

    private static final int MOST_GARDENERS = 4;
    private static final int MOST_VISITORS = 5;
    private static final int MOST_COINS = 99;
    private static final int TRIM_COST = 2;
    private static final int MOST_RATE = 5;
    private static final int PREMIUM_PER_RATE = 2;
    private static final int MOST_REST = 9;

    private static final int MOST_SIGNS = 60;
    // A command has at least one sign and a ";" between it and the next.
    private static final int MOST_COMMANDS = 30;
    private static final int MOST_NUMBERS = 3;
    private static final int MOST_UNDONE = 8;
    private static final int FAR = 1000;

    private static final int COINS = 0;
    private static final int CELL = 1;
    private static final int SPENT = 2;
    private static final int ALLOWANCE = 3;
    private static final int LOST = 4;
    private static final int GIVER = 5;
    private static final int RATE = 6;
    private static final int IS_VOID = 7;
    private static final int HAS_LEFT = 8;

    private static final int OUT_OF_RANGE = 1;
    private static final int NO_NEIGHBOURS = 2;
    private static final int SO_ALREADY = 3;
    private static final int NO_GARDENER = 4;
    private static final int TOO_FEW_COINS = 5;
    private static final int NO_WAY = 6;
    private static final int NO_VISITOR = 7;
    private static final int HAS_BOND = 8;
    private static final int IS_OUT = 9;
    private static final int MEETS_MINOTAUR = 10;
    private static final int MAZE_ENDS = 11;
    private static final int HEDGE_STANDS = 12;
    private static final int FULL = 13;

    private final State now;
    private final State before;
    private final State saved;
    private boolean hasSaved;
    private final History history;
    private final Refusal refusal;
    private final Ways ways;
    private final Keeper keeper;
    private final CommandText text;
    private final StringBuilder written;

    public MazeBonds() {
        now = new State();
        before = new State();
        saved = new State();
        hasSaved = false;
        history = new History();
        refusal = new Refusal();
        ways = new Ways(now.maze);
        keeper = new Keeper(now, ways, refusal);
        text = new CommandText();
        written = new StringBuilder();
    }

    public int hedge(int one, int other, int leaves) throws UnsupportedOperationException {
        before.copyFrom(now);
        return settled(keeper.tellLeaves(one, other, leaves));
    }

    public int summer() {
        before.copyFrom(now);
        return settled(keeper.passSummer());
    }

    public int trim(int gardener, int one, int other) throws UnsupportedOperationException {
        before.copyFrom(now);
        return settled(keeper.trimHedge(gardener, one, other));
    }

    public int minotaur(int cell) throws UnsupportedOperationException {
        before.copyFrom(now);
        return settled(keeper.placeMinotaur(cell));
    }

    public int gardener(int coins) throws UnsupportedOperationException {
        before.copyFrom(now);
        return settled(keeper.admitGardener(coins));
    }

    public int visitor(int coins) throws UnsupportedOperationException {
        before.copyFrom(now);
        return settled(keeper.admitVisitor(coins));
    }

    public int bond(int gardener, int visitor, int rate) throws UnsupportedOperationException {
        before.copyFrom(now);
        return settled(keeper.giveBond(gardener, visitor, rate));
    }

    public int walk(int visitor, int direction) throws UnsupportedOperationException {
        before.copyFrom(now);
        return settled(keeper.moveVisitor(visitor, direction));
    }

    public int rest(int visitor, int hours) throws UnsupportedOperationException {
        before.copyFrom(now);
        return settled(keeper.restVisitor(visitor, hours));
    }

    /** Keeps what there was before a call that is carried out, or throws for a refused one. */
    private int settled(int answer) {
        if (answer == REFUSED) {
            throw new UnsupportedOperationException("the call is refused");
        }
        history.keep(before);
        return answer;
    }

    public int leaves(int one, int other) throws IndexOutOfBoundsException, NoSuchElementException {
        return now.maze.leavesOf(hedgeAsked(one, other));
    }

    public boolean isGap(int one, int other) throws IndexOutOfBoundsException {
        demandCells(one, other);
        return now.maze.isOpen(Maze.hedgeBetween(one, other));
    }

    public int hours(int from, int to) throws IndexOutOfBoundsException, NoSuchElementException {
        demandCells(from, to);
        return demandWay(ways.hoursByDistance(from, to));
    }

    public int hoursAgain(int from, int to) throws IndexOutOfBoundsException, NoSuchElementException {
        demandCells(from, to);
        return demandWay(ways.hoursByNeighbours(from, to));
    }

    public int next(int from) throws IndexOutOfBoundsException, NoSuchElementException {
        demandCells(from, from);
        int step = ways.stepToExit(from);
        if (step == NONE) {
            throw new NoSuchElementException("there is no way, or it is the exit");
        }
        return step;
    }

    public int reached(int from) throws IndexOutOfBoundsException {
        demandCells(from, from);
        return ways.cellsReached(from);
    }

    public int trims(int from) throws IndexOutOfBoundsException {
        demandCells(from, from);
        return ways.trimsByNumber(from);
    }

    public int trimsAgain(int from) throws IndexOutOfBoundsException {
        demandCells(from, from);
        return ways.trimsByNeighbours(from);
    }

    public boolean isNeeded(int one, int other) throws IndexOutOfBoundsException, NoSuchElementException {
        int hedge = hedgeAsked(one, other);
        return ways.leadsThrough(CLOSED_FROM, NONE) && !ways.leadsThrough(CLOSED_FROM, hedge);
    }

    public int closesIn(int one, int other) throws IndexOutOfBoundsException, NoSuchElementException {
        int leaves = now.maze.leavesOf(hedgeAsked(one, other));
        return Math.max(0, CLOSED_FROM - leaves);
    }

    public int summersLeft() {
        // After so many summers a hedge is a gap if it has that many leaves fewer now.
        for (int summers = 0; summers < CLOSED_FROM; summers++) {
            if (!ways.leadsThrough(CLOSED_FROM - summers, NONE)) {
                return summers;
            }
        }
        return CLOSED_FROM;
    }

    private static void demandCells(int one, int other) {
        if (!Maze.isCell(one) || !Maze.isCell(other)) {
            throw new IndexOutOfBoundsException("there is no such cell");
        }
    }

    private static int hedgeAsked(int one, int other) {
        demandCells(one, other);
        int hedge = Maze.hedgeBetween(one, other);
        if (hedge == NONE) {
            throw new NoSuchElementException("the cells are no neighbours");
        }
        return hedge;
    }

    private static int demandWay(int hours) {
        if (hours >= FAR) {
            throw new NoSuchElementException("there is no way");
        }
        return hours;
    }

    public int gardenerOf(int gardener, int what) throws IndexOutOfBoundsException, IllegalArgumentException {
        Gardener asked = gardenerAsked(gardener);
        switch (what) {
            case 0:
                return asked.coins;
            case 1:
                return now.bondsOf(gardener);
            case 2:
                return asked.premiums;
            case 3:
                return asked.paid;
            case 4:
                return asked.trimmed;
            default:
                throw new IllegalArgumentException("what is not from 0 to 4");
        }
    }

    public int visitorOf(int visitor, int what) throws IndexOutOfBoundsException, IllegalArgumentException {
        Visitor asked = visitorAsked(visitor);
        if (what < COINS || what > HAS_LEFT) {
            throw new IllegalArgumentException("what is not from 0 to 8");
        }
        return asked.numberFor(what);
    }

    public int wouldPay(int visitor) throws IndexOutOfBoundsException, NoSuchElementException {
        Visitor asked = visitorAsked(visitor);
        Gardener giver = now.findGardener(asked.giver);
        if (asked.isOut || giver == null) {
            throw new NoSuchElementException("the visitor is out or has no bond");
        }
        int more = demandWay(ways.hoursByDistance(asked.cell, EXIT));
        return Math.min(asked.dueAfter(more), giver.coins);
    }

    public int owed(int gardener) throws IndexOutOfBoundsException {
        gardenerAsked(gardener);
        return now.debtOf(gardener);
    }

    private Gardener gardenerAsked(int gardener) {
        Gardener found = now.findGardener(gardener);
        if (found == null) {
            throw new IndexOutOfBoundsException("there is no such gardener");
        }
        return found;
    }

    private Visitor visitorAsked(int visitor) {
        Visitor found = now.findVisitor(visitor);
        if (found == null) {
            throw new IndexOutOfBoundsException("there is no such visitor");
        }
        return found;
    }

    public int ranked(int measure, int place) throws IllegalArgumentException, NoSuchElementException {
        switch (measure) {
            case 0:
                return visitorPlaced(COINS, place);
            case 1:
                return visitorPlaced(SPENT, place);
            case 2:
                return visitorPlaced(LOST, place);
            case 3:
                return visitorPlaced(RATE, place);
            default:
                throw new IllegalArgumentException("there is no such measure");
        }
    }

    private int visitorPlaced(int what, int place) {
        for (int visitor = 0; visitor < now.visitorCount; visitor++) {
            if (now.visitorsAhead(visitor, what) == place) {
                return visitor;
            }
        }
        throw new NoSuchElementException("there is no such place");
    }

    public int richest(int place) throws NoSuchElementException {
        for (int gardener = 0; gardener < now.gardenerCount; gardener++) {
            if (now.gardenersAhead(gardener) == place) {
                return gardener;
            }
        }
        throw new NoSuchElementException("there is no such place");
    }

    public int append(char character) throws IllegalStateException {
        if (text.length >= MOST_SIGNS) {
            throw new IllegalStateException("the buffer is full");
        }
        text.add(character);
        return text.length;
    }

    public int commands() throws IllegalArgumentException, UnsupportedOperationException {
        if (!text.takeCommands()) {
            throw new IllegalArgumentException("the text has a fault");
        }
        before.copyFrom(now);
        for (int command = 0; command < text.count; command++) {
            if (keeper.carryOut(text, command) == REFUSED) {
                refusal.command = command;
                now.copyFrom(before);
                throw new UnsupportedOperationException("a command is refused");
            }
        }
        return settled(text.count);
    }

    public int faultPosition() {
        return text.fault;
    }

    public int reason(int what) throws IllegalArgumentException, NoSuchElementException {
        if (what < 0 || what > 2) {
            throw new IllegalArgumentException("what is not from 0 to 2");
        }
        if (refusal.number == 0) {
            throw new NoSuchElementException("nothing was refused");
        }
        if (what == 0) {
            return refusal.number;
        }
        return what == 1 ? refusal.detail : refusal.command;
    }

    public int line(int visitor) throws IndexOutOfBoundsException {
        Visitor asked = visitorAsked(visitor);
        written.setLength(0);
        if (asked.isOut) {
            written.append("out");
        } else {
            written.append(asked.cell);
        }
        written.append('+').append(asked.spent);
        if (asked.hasBond()) {
            written.append('#').append(asked.giver).append('*').append(asked.rate);
            if (asked.isVoid) {
                written.append('!');
            }
        }
        return written.length();
    }

    public int row(int row) throws IllegalArgumentException {
        if (row < 0 || row >= SIDE) {
            throw new IllegalArgumentException("there is no such row");
        }
        written.setLength(0);
        int last = row * SIDE + SIDE - 1;
        for (int cell = row * SIDE; cell <= last; cell++) {
            if (cell == now.minotaur) {
                written.append('M');
            } else {
                written.append(now.visitorsIn(cell));
            }
            if (cell < last) {
                written.append(now.maze.isOpen(Maze.hedgeBetween(cell, cell + 1)) ? ' ' : '|');
            }
        }
        return written.length();
    }

    public char character(int index) throws IndexOutOfBoundsException {
        if (index < 0 || index >= written.length()) {
            throw new IndexOutOfBoundsException("there is no such index");
        }
        return written.charAt(index);
    }

    public double meanLost() throws ArithmeticException {
        if (now.visitorCount == 0) {
            throw new ArithmeticException("there are no visitors");
        }
        return (double) now.totalOf(LOST) / (double) now.visitorCount;
    }

    public float gapShare() {
        return (float) now.maze.gaps() / (float) HEDGES;
    }

    public int account(int what) throws IllegalArgumentException {
        switch (what) {
            case 0:
                return now.gardenerCount;
            case 1:
                return now.visitorCount;
            case 2:
                return now.totalOf(HAS_LEFT);
            case 3:
                return now.bonds();
            case 4:
                return now.totalOf(IS_VOID);
            case 5:
                return now.maze.gaps();
            case 6:
                return now.summers;
            case 7:
                return now.brought;
            case 8:
                return now.spentOnTrimming;
            case 9:
                return now.coinsOfAll();
            case 10:
                return history.count;
            case 11:
                return text.length;
            default:
                throw new IllegalArgumentException("what is not from 0 to 11");
        }
    }

    public int undo() throws IllegalStateException {
        if (history.count == 0) {
            throw new IllegalStateException("there is nothing to undo");
        }
        history.takeBack(now);
        return history.count;
    }

    public int save() {
        saved.copyFrom(now);
        hasSaved = true;
        return now.visitorCount;
    }

    public int restore() throws IllegalStateException {
        if (!hasSaved) {
            throw new IllegalStateException("there is no snapshot");
        }
        now.copyFrom(saved);
        history.forget();
        return now.visitorCount;
    }

    /** The hedges with their leaves, and what cells they stand between. */
    private static final class Maze {
        private static final int[] LOWER_CELL = {
            0, 1, 2, 4, 5, 6, 8, 9, 10, 12, 13, 14,
            0, 1, 2, 3, 4, 5, 6, 7, 8, 9, 10, 11};
        private static final int[] UPPER_CELL = {
            1, 2, 3, 5, 6, 7, 9, 10, 11, 13, 14, 15,
            4, 5, 6, 7, 8, 9, 10, 11, 12, 13, 14, 15};

        private final int[] leafCounts;

        Maze() {
            leafCounts = new int[HEDGES];
        }

        void copyFrom(Maze other) {
            System.arraycopy(other.leafCounts, 0, leafCounts, 0, HEDGES);
        }

        static boolean isCell(int cell) {
            return cell >= 0 && cell < CELLS;
        }

        static int hedgeBetween(int one, int other) {
            int lower = Math.min(one, other);
            int upper = Math.max(one, other);
            for (int hedge = 0; hedge < HEDGES; hedge++) {
                if (LOWER_CELL[hedge] == lower && UPPER_CELL[hedge] == upper) {
                    return hedge;
                }
            }
            return NONE;
        }

        static int cellAcross(int hedge, int cell) {
            if (hedge < 0 || hedge >= HEDGES) {
                return NONE;
            }
            if (LOWER_CELL[hedge] == cell) {
                return UPPER_CELL[hedge];
            }
            return UPPER_CELL[hedge] == cell ? LOWER_CELL[hedge] : NONE;
        }

        static int cellTowards(int cell, int direction) {
            switch (direction) {
                case NORTH:
                    return cell >= SIDE ? cell - SIDE : NONE;
                case EAST:
                    return cell % SIDE < SIDE - 1 ? cell + 1 : NONE;
                case SOUTH:
                    return cell < CELLS - SIDE ? cell + SIDE : NONE;
                case WEST:
                    return cell % SIDE > 0 ? cell - 1 : NONE;
                default:
                    return NONE;
            }
        }

        int leavesOf(int hedge) {
            return hedge >= 0 && hedge < HEDGES ? leafCounts[hedge] : MOST_LEAVES;
        }

        void putLeaves(int hedge, int leaves) {
            if (hedge >= 0 && hedge < HEDGES) {
                leafCounts[hedge] = leaves;
            }
        }

        boolean isOpen(int hedge) {
            return leavesOf(hedge) < CLOSED_FROM;
        }

        int gaps() {
            int open = 0;
            for (int hedge = 0; hedge < HEDGES; hedge++) {
                if (isOpen(hedge)) {
                    open++;
                }
            }
            return open;
        }

        void grow() {
            for (int hedge = 0; hedge < HEDGES; hedge++) {
                leafCounts[hedge] = Math.min(MOST_LEAVES, leafCounts[hedge] + 1);
            }
        }
    }

    /** Searches in the maze; its rows are used again by each search. */
    private static final class Ways {
        private final Maze maze;
        private final int[] distances;
        private final int[] queue;

        Ways(Maze maze) {
            this.maze = maze;
            distances = new int[CELLS];
            queue = new int[CELLS];
        }

        /** The fewest hours, or FAR if there is no way. */
        int hoursByDistance(int from, int to) {
            measureFrom(from);
            return distanceOf(to);
        }

        int hoursByNeighbours(int from, int to) {
            relaxFrom(from, 1, FAR);
            return distanceOf(to);
        }

        int trimsByNeighbours(int from) {
            relaxFrom(from, 0, 1);
            return distanceOf(EXIT);
        }

        private int distanceOf(int cell) {
            return Maze.isCell(cell) ? distances[cell] : FAR;
        }

        private void startFrom(int cell) {
            Arrays.fill(distances, FAR);
            if (Maze.isCell(cell)) {
                distances[cell] = 0;
            }
        }

        private void measureFrom(int start) {
            startFrom(start);
            queue[0] = start;
            int queued = 1;
            for (int taken = 0; taken < queued && taken < CELLS; taken++) {
                int cell = queue[taken];
                for (int hedge = 0; hedge < HEDGES; hedge++) {
                    int other = Maze.cellAcross(hedge, cell);
                    boolean isNew = Maze.isCell(other) && maze.isOpen(hedge) && distances[other] == FAR;
                    if (isNew && queued < CELLS) {
                        distances[other] = distanceOf(cell) + 1;
                        queue[queued] = other;
                        queued++;
                    }
                }
            }
        }

        private void relaxFrom(int start, int gapCost, int hedgeCost) {
            startFrom(start);
            boolean changed = true;
            // The longest way has fewer steps than there are cells, so that many rounds are enough.
            for (int round = 0; round < CELLS && changed; round++) {
                changed = false;
                for (int hedge = 0; hedge < HEDGES; hedge++) {
                    int cost = maze.isOpen(hedge) ? gapCost : hedgeCost;
                    boolean upperFell = lower(Maze.UPPER_CELL[hedge], Maze.LOWER_CELL[hedge], cost);
                    boolean lowerFell = lower(Maze.LOWER_CELL[hedge], Maze.UPPER_CELL[hedge], cost);
                    changed = changed || upperFell || lowerFell;
                }
            }
        }

        /** Lets a cell take what it costs by a neighbour, and answers whether that is less. */
        private boolean lower(int cell, int neighbour, int cost) {
            int offered = distanceOf(neighbour) + cost;
            if (!Maze.isCell(cell) || offered >= distances[cell]) {
                return false;
            }
            distances[cell] = offered;
            return true;
        }

        int stepToExit(int from) {
            measureFrom(EXIT);
            int left = distanceOf(from);
            int step = NONE;
            if (left == FAR) {
                return step;
            }
            for (int hedge = 0; hedge < HEDGES; hedge++) {
                int other = Maze.cellAcross(hedge, from);
                boolean isNearer = other != NONE && maze.isOpen(hedge) && distanceOf(other) == left - 1;
                if (isNearer && (step == NONE || other < step)) {
                    step = other;
                }
            }
            return step;
        }

        int cellsReached(int from) {
            return flood(1 << from, CLOSED_FROM, NONE);
        }

        /** Whether hedges with fewer leaves than the limit, one left out, lead to the exit. */
        boolean leadsThrough(int limit, int leftOut) {
            return holdsExit(flood(1 << ENTRANCE, limit, leftOut));
        }

        int trimsByNumber(int from) {
            int reached = cellsReached(from);
            int trimmed = 0;
            // No way needs more trimmed hedges than there are hedges.
            while (trimmed < HEDGES && !holdsExit(reached)) {
                reached = flood(widened(reached), CLOSED_FROM, NONE);
                trimmed++;
            }
            return trimmed;
        }

        private static boolean holdsExit(int cells) {
            return (cells & 1 << EXIT) != 0;
        }

        private int flood(int start, int limit, int leftOut) {
            int reached = start;
            int earlier = 0;
            for (int round = 0; round < CELLS && reached != earlier; round++) {
                earlier = reached;
                for (int hedge = 0; hedge < HEDGES; hedge++) {
                    if (hedge != leftOut && maze.leavesOf(hedge) < limit) {
                        reached |= joinedBy(hedge, reached);
                    }
                }
            }
            return reached;
        }

        private static int widened(int cells) {
            int wider = cells;
            for (int hedge = 0; hedge < HEDGES; hedge++) {
                wider |= joinedBy(hedge, cells);
            }
            return wider;
        }

        private static int joinedBy(int hedge, int cells) {
            int ends = 1 << Maze.LOWER_CELL[hedge] | 1 << Maze.UPPER_CELL[hedge];
            return (cells & ends) != 0 ? ends : 0;
        }
    }

    /** A gardener's coins and what was done with them so far. */
    private static final class Gardener {
        private int coins;
        private int premiums;
        private int paid;
        private int trimmed;

        void copyFrom(Gardener other) {
            coins = other.coins;
            premiums = other.premiums;
            paid = other.paid;
            trimmed = other.trimmed;
        }

        void arrive(int broughtCoins) {
            coins = broughtCoins;
            premiums = 0;
            paid = 0;
            trimmed = 0;
        }
    }

    /** A visitor with the bond, if there is one. */
    private static final class Visitor {
        private int coins;
        private int cell;
        private int spent;
        private int allowance;
        private int giver;
        private int rate;
        private boolean isVoid;
        private boolean isOut;

        Visitor() {
            giver = NONE;
        }

        void copyFrom(Visitor other) {
            coins = other.coins;
            cell = other.cell;
            spent = other.spent;
            allowance = other.allowance;
            giver = other.giver;
            rate = other.rate;
            isVoid = other.isVoid;
            isOut = other.isOut;
        }

        void arrive(int broughtCoins, int fewestHours) {
            coins = broughtCoins;
            cell = ENTRANCE;
            spent = 0;
            allowance = fewestHours;
            isOut = false;
            endBond();
        }

        boolean hasBond() {
            return giver != NONE;
        }

        void takeBond(int gardener, int bondRate) {
            giver = gardener;
            rate = bondRate;
            isVoid = false;
        }

        void endBond() {
            giver = NONE;
            rate = 0;
            isVoid = false;
        }

        void meetMinotaur() {
            isVoid = hasBond();
        }

        boolean isIn(int place) {
            return !isOut && cell == place;
        }

        private int lostAfter(int more) {
            return Math.max(0, spent + more - allowance);
        }

        /** What the bond is to pay after so many hours more, however few coins there are. */
        int dueAfter(int more) {
            return isVoid ? 0 : rate * lostAfter(more);
        }

        int numberFor(int what) {
            switch (what) {
                case COINS:
                    return coins;
                case CELL:
                    return cell;
                case SPENT:
                    return spent;
                case ALLOWANCE:
                    return allowance;
                case LOST:
                    return lostAfter(0);
                case GIVER:
                    return giver;
                case RATE:
                    return rate;
                case IS_VOID:
                    return isVoid ? 1 : 0;
                default:
                    return isOut ? 1 : 0;
            }
        }
    }

    /** All that can be undone. */
    private static final class State {
        private final Maze maze;
        private final Gardener[] gardeners;
        private final Visitor[] visitors;
        private int gardenerCount;
        private int visitorCount;
        private int minotaur;
        private int summers;
        private int brought;
        private int spentOnTrimming;

        State() {
            maze = new Maze();
            minotaur = NONE;
            gardeners = new Gardener[MOST_GARDENERS];
            for (int gardener = 0; gardener < MOST_GARDENERS; gardener++) {
                gardeners[gardener] = new Gardener();
            }
            visitors = new Visitor[MOST_VISITORS];
            for (int visitor = 0; visitor < MOST_VISITORS; visitor++) {
                visitors[visitor] = new Visitor();
            }
        }

        void copyFrom(State other) {
            maze.copyFrom(other.maze);
            for (int gardener = 0; gardener < MOST_GARDENERS; gardener++) {
                gardeners[gardener].copyFrom(other.gardeners[gardener]);
            }
            for (int visitor = 0; visitor < MOST_VISITORS; visitor++) {
                visitors[visitor].copyFrom(other.visitors[visitor]);
            }
            gardenerCount = other.gardenerCount;
            visitorCount = other.visitorCount;
            minotaur = other.minotaur;
            summers = other.summers;
            brought = other.brought;
            spentOnTrimming = other.spentOnTrimming;
        }

        Gardener findGardener(int gardener) {
            return gardener >= 0 && gardener < gardenerCount ? gardeners[gardener] : null;
        }

        Visitor findVisitor(int visitor) {
            return visitor >= 0 && visitor < visitorCount ? visitors[visitor] : null;
        }

        int bondsOf(int gardener) {
            int found = 0;
            for (int visitor = 0; visitor < visitorCount; visitor++) {
                if (visitors[visitor].giver == gardener) {
                    found++;
                }
            }
            return found;
        }

        int bonds() {
            return visitorCount - bondsOf(NONE);
        }

        int debtOf(int gardener) {
            int debt = 0;
            for (int visitor = 0; visitor < visitorCount; visitor++) {
                if (visitors[visitor].giver == gardener) {
                    debt += visitors[visitor].dueAfter(0);
                }
            }
            return debt;
        }

        int visitorsIn(int cell) {
            int found = 0;
            for (int visitor = 0; visitor < visitorCount; visitor++) {
                if (visitors[visitor].isIn(cell)) {
                    found++;
                }
            }
            return found;
        }

        int totalOf(int what) {
            int total = 0;
            for (int visitor = 0; visitor < visitorCount; visitor++) {
                total += visitors[visitor].numberFor(what);
            }
            return total;
        }

        int coinsOfAll() {
            int coins = totalOf(COINS);
            for (int gardener = 0; gardener < gardenerCount; gardener++) {
                coins += gardeners[gardener].coins;
            }
            return coins;
        }

        int visitorsAhead(int visitor, int what) {
            Visitor placed = findVisitor(visitor);
            int ahead = 0;
            for (int rival = 0; placed != null && rival < visitorCount; rival++) {
                int more = visitors[rival].numberFor(what) - placed.numberFor(what);
                if (more > 0 || more == 0 && rival < visitor) {
                    ahead++;
                }
            }
            return ahead;
        }

        int gardenersAhead(int gardener) {
            int ahead = 0;
            for (int rival = 0; rival < gardenerCount; rival++) {
                if (isRicher(rival, gardener)) {
                    ahead++;
                }
            }
            return ahead;
        }

        private boolean isRicher(int rival, int gardener) {
            Gardener first = findGardener(rival);
            Gardener second = findGardener(gardener);
            if (first == null || second == null) {
                return false;
            }
            if (first.coins != second.coins) {
                return first.coins > second.coins;
            }
            int owedLess = debtOf(gardener) - debtOf(rival);
            return owedLess > 0 || owedLess == 0 && rival < gardener;
        }
    }

    /** What there was before each of the latest changes; the rows go round. */
    private static final class History {
        private final State[] kept;
        private int latest;
        private int count;

        History() {
            kept = new State[MOST_UNDONE];
            for (int place = 0; place < MOST_UNDONE; place++) {
                kept[place] = new State();
            }
        }

        void keep(State state) {
            latest = (latest + 1) % MOST_UNDONE;
            kept[latest].copyFrom(state);
            count = Math.min(MOST_UNDONE, count + 1);
        }

        void takeBack(State state) {
            if (count > 0) {
                state.copyFrom(kept[latest]);
                latest = (latest + MOST_UNDONE - 1) % MOST_UNDONE;
                count--;
            }
        }

        void forget() {
            count = 0;
        }
    }

    /** The reason that is kept; the number 0 tells that nothing was refused. */
    private static final class Refusal {
        private int number;
        private int detail;
        private int command;

        int because(int reasonNumber, int reasonDetail) {
            number = reasonNumber;
            detail = reasonDetail;
            command = 0;
            return REFUSED;
        }
    }

    /** The changes; each looks for every reason to refuse before it touches the state. */
    private static final class Keeper {
        private final State state;
        private final Ways ways;
        private final Refusal refusal;

        Keeper(State state, Ways ways, Refusal refusal) {
            this.state = state;
            this.ways = ways;
            this.refusal = refusal;
        }

        int carryOut(CommandText text, int command) {
            int first = text.numberOf(command, 0);
            int second = text.numberOf(command, 1);
            int third = text.numberOf(command, 2);
            switch (text.kindOf(command)) {
                case 'h':
                    return tellLeaves(first, second, third);
                case 's':
                    return passSummer();
                case 't':
                    return trimHedge(first, second, third);
                case 'm':
                    return placeMinotaur(first);
                case 'g':
                    return admitGardener(first);
                case 'v':
                    return admitVisitor(first);
                case 'b':
                    return giveBond(first, second, third);
                case 'w':
                    return moveVisitor(first, second);
                default:
                    return restVisitor(first, second);
            }
        }

        int tellLeaves(int one, int other, int leaves) {
            if (leaves < 0 || leaves > MOST_LEAVES) {
                return refusal.because(OUT_OF_RANGE, 0);
            }
            int hedge = hedgeOrRefusal(one, other);
            if (hedge == NONE) {
                return REFUSED;
            }
            int earlier = state.maze.leavesOf(hedge);
            if (earlier == leaves) {
                return refusal.because(SO_ALREADY, leaves);
            }
            state.maze.putLeaves(hedge, leaves);
            return earlier;
        }

        /** The hedge between two cells, or NONE when the reason against it is kept. */
        private int hedgeOrRefusal(int one, int other) {
            if (!Maze.isCell(one) || !Maze.isCell(other)) {
                refusal.because(OUT_OF_RANGE, 0);
                return NONE;
            }
            int hedge = Maze.hedgeBetween(one, other);
            if (hedge == NONE) {
                refusal.because(NO_NEIGHBOURS, Math.max(one, other));
            }
            return hedge;
        }

        int passSummer() {
            int earlier = state.maze.gaps();
            state.maze.grow();
            state.summers++;
            return earlier - state.maze.gaps();
        }

        int trimHedge(int gardener, int one, int other) {
            Gardener trimmer = state.findGardener(gardener);
            if (trimmer == null) {
                return refusal.because(NO_GARDENER, state.gardenerCount);
            }
            int hedge = hedgeOrRefusal(one, other);
            if (hedge == NONE) {
                return REFUSED;
            }
            if (state.maze.leavesOf(hedge) == 0) {
                return refusal.because(SO_ALREADY, 0);
            }
            if (trimmer.coins < TRIM_COST) {
                return refusal.because(TOO_FEW_COINS, TRIM_COST - trimmer.coins);
            }
            state.maze.putLeaves(hedge, 0);
            trimmer.coins -= TRIM_COST;
            trimmer.trimmed++;
            state.spentOnTrimming += TRIM_COST;
            return trimmer.coins;
        }

        int placeMinotaur(int cell) {
            if (cell != NONE && !Maze.isCell(cell)) {
                return refusal.because(OUT_OF_RANGE, 0);
            }
            if (cell == state.minotaur) {
                return refusal.because(SO_ALREADY, cell);
            }
            state.minotaur = cell;
            for (int visitor = 0; visitor < state.visitorCount; visitor++) {
                meetIfThere(state.visitors[visitor]);
            }
            return state.visitorsIn(cell);
        }

        private void meetIfThere(Visitor visitor) {
            if (visitor.isIn(state.minotaur)) {
                visitor.meetMinotaur();
            }
        }

        int admitGardener(int coins) {
            if (coins < 0 || coins > MOST_COINS) {
                return refusal.because(OUT_OF_RANGE, 0);
            }
            int number = state.gardenerCount;
            if (number >= MOST_GARDENERS) {
                return refusal.because(FULL, MOST_GARDENERS);
            }
            state.gardeners[number].arrive(coins);
            state.gardenerCount++;
            state.brought += coins;
            return number;
        }

        int admitVisitor(int coins) {
            if (coins < 0 || coins > MOST_COINS) {
                return refusal.because(OUT_OF_RANGE, 0);
            }
            int number = state.visitorCount;
            if (number >= MOST_VISITORS) {
                return refusal.because(FULL, MOST_VISITORS);
            }
            int fewest = ways.hoursByDistance(ENTRANCE, EXIT);
            if (fewest >= FAR) {
                return refusal.because(NO_WAY, Integer.bitCount(ways.cellsReached(ENTRANCE)));
            }
            state.visitors[number].arrive(coins, fewest);
            state.visitorCount++;
            state.brought += coins;
            return number;
        }

        int giveBond(int gardener, int visitor, int rate) {
            Gardener giver = state.findGardener(gardener);
            if (giver == null) {
                return refusal.because(NO_GARDENER, state.gardenerCount);
            }
            Visitor taker = state.findVisitor(visitor);
            if (taker == null) {
                return refusal.because(NO_VISITOR, state.visitorCount);
            }
            if (rate < 1 || rate > MOST_RATE) {
                return refusal.because(OUT_OF_RANGE, 0);
            }
            if (taker.isOut) {
                return refusal.because(IS_OUT, taker.spent);
            }
            if (taker.hasBond()) {
                return refusal.because(HAS_BOND, taker.giver);
            }
            if (taker.isIn(state.minotaur)) {
                return refusal.because(MEETS_MINOTAUR, state.minotaur);
            }
            int premium = PREMIUM_PER_RATE * rate;
            if (taker.coins < premium) {
                return refusal.because(TOO_FEW_COINS, premium - taker.coins);
            }
            taker.coins -= premium;
            taker.takeBond(gardener, rate);
            giver.coins += premium;
            giver.premiums += premium;
            return taker.coins;
        }

        int moveVisitor(int visitor, int direction) {
            Visitor walker = state.findVisitor(visitor);
            if (walker == null) {
                return refusal.because(NO_VISITOR, state.visitorCount);
            }
            if (direction < NORTH || direction > WEST) {
                return refusal.because(OUT_OF_RANGE, 0);
            }
            if (walker.isOut) {
                return refusal.because(IS_OUT, walker.spent);
            }
            int cell = Maze.cellTowards(walker.cell, direction);
            if (cell == NONE) {
                return refusal.because(MAZE_ENDS, walker.cell);
            }
            int hedge = Maze.hedgeBetween(walker.cell, cell);
            if (!state.maze.isOpen(hedge)) {
                return refusal.because(HEDGE_STANDS, state.maze.leavesOf(hedge));
            }
            walker.cell = cell;
            walker.spent++;
            meetIfThere(walker);
            if (cell == EXIT) {
                leaveMaze(walker);
            }
            return cell;
        }

        private void leaveMaze(Visitor visitor) {
            Gardener giver = state.findGardener(visitor.giver);
            if (giver != null) {
                int pay = Math.min(visitor.dueAfter(0), giver.coins);
                giver.coins -= pay;
                giver.paid += pay;
                visitor.coins += pay;
            }
            visitor.endBond();
            visitor.isOut = true;
        }

        int restVisitor(int visitor, int hours) {
            Visitor rester = state.findVisitor(visitor);
            if (rester == null) {
                return refusal.because(NO_VISITOR, state.visitorCount);
            }
            if (hours < 1 || hours > MOST_REST) {
                return refusal.because(OUT_OF_RANGE, 0);
            }
            if (rester.isOut) {
                return refusal.because(IS_OUT, rester.spent);
            }
            rester.spent += hours;
            return rester.spent;
        }
    }

    /** The text buffer, and the commands of the text that was read last. */
    private static final class CommandText {
        // An array and no text, since any character may be appended.
        private final char[] signs;
        private final char[] kinds;
        private final int[][] numbers;
        private int length;
        private int place;
        private int count;
        private int filled;
        private int fault;

        CommandText() {
            signs = new char[MOST_SIGNS];
            kinds = new char[MOST_COMMANDS];
            numbers = new int[MOST_COMMANDS][MOST_NUMBERS];
            fault = NONE;
        }

        void add(char sign) {
            if (length < MOST_SIGNS) {
                signs[length] = sign;
                length++;
            }
        }

        char kindOf(int command) {
            return command >= 0 && command < count ? kinds[command] : ' ';
        }

        int numberOf(int command, int index) {
            boolean isThere = command >= 0 && command < count && index >= 0 && index < MOST_NUMBERS;
            return isThere ? numbers[command][index] : NONE;
        }

        /** Reads the commands and empties the buffer; answers whether the text has no fault. */
        boolean takeCommands() {
            place = 0;
            count = 0;
            boolean isSound = readCommand();
            // Each round takes a sign at least, or finds a fault.
            for (int round = 0; round < MOST_SIGNS && isSound && place < length; round++) {
                isSound = takeSign(';') && readCommand();
            }
            fault = isSound ? NONE : place;
            length = 0;
            return isSound;
        }

        private boolean readCommand() {
            if (place >= length || count >= MOST_COMMANDS) {
                return false;
            }
            char kind = signs[place];
            String form = formOf(kind);
            if (form == null) {
                return false;
            }
            kinds[count] = kind;
            filled = 0;
            place++;
            for (int part = 0; part < form.length(); part++) {
                if (!readPart(form.charAt(part))) {
                    return false;
                }
            }
            count++;
            return true;
        }

        /** What follows a command's letter: N up to two digits, D one, X a cell or "x", W a direction. */
        private static String formOf(char kind) {
            switch (kind) {
                case 'h':
                    return "N-N=D";
                case 's':
                    return "";
                case 't':
                    return "D:N-N";
                case 'm':
                    return "X";
                case 'g':
                case 'v':
                    return "N";
                case 'b':
                    return "D>D*D";
                case 'w':
                    return "DW";
                case 'r':
                    return "D+D";
                default:
                    return null;
            }
        }

        private boolean readPart(char part) {
            switch (part) {
                case 'N':
                    return readNumber(2);
                case 'D':
                    return readNumber(1);
                case 'X':
                    return takeSign('x') ? keepNumber(NONE) : readNumber(2);
                case 'W':
                    return readDirection();
                default:
                    return takeSign(part);
            }
        }

        private boolean takeSign(char sign) {
            if (place >= length || signs[place] != sign) {
                return false;
            }
            place++;
            return true;
        }

        private boolean isAtDigit() {
            return place < length && signs[place] >= '0' && signs[place] <= '9';
        }

        private boolean readNumber(int mostDigits) {
            if (!isAtDigit()) {
                return false;
            }
            int number = 0;
            for (int digits = 0; digits < mostDigits && isAtDigit(); digits++) {
                number = number * 10 + signs[place] - '0';
                place++;
            }
            return keepNumber(number);
        }

        private boolean readDirection() {
            if (takeSign('n')) {
                return keepNumber(NORTH);
            }
            if (takeSign('e')) {
                return keepNumber(EAST);
            }
            if (takeSign('s')) {
                return keepNumber(SOUTH);
            }
            return takeSign('w') && keepNumber(WEST);
        }

        private boolean keepNumber(int number) {
            if (count >= MOST_COMMANDS || filled >= MOST_NUMBERS) {
                return false;
            }
            numbers[count][filled] = number;
            filled++;
            return true;
        }
    }
}
