import java.util.ArrayList;
import java.util.List;

/** What the boundary tests share; each test names the section and the clause of the document that it holds. */
abstract class Boundary {
    static final int NORTH = 0;
    static final int EAST = 1;
    static final int SOUTH = 2;
    static final int WEST = 3;
    static final int NONE = -1;
    static final int[] BEYOND_CELLS = {-1, 16, Integer.MIN_VALUE, Integer.MAX_VALUE};

    private static final List<String[]> NAMED = new ArrayList<>();

    static void holds(String section, String clause, Expect.Call test) {
        NAMED.add(new String[] {section, clause});
        Expect.under(section + ", \"" + clause + "\"", test);
    }

    static void term(String clause, Expect.Call test) {
        holds("Terms", clause, test);
    }

    static void promise(int number, String clause, Expect.Call test) {
        holds("Promise " + number, clause, test);
    }

    /** The sections and clauses of all tests that ran. */
    static List<String[]> named() {
        return NAMED;
    }

    /** A maze with a gardener and a visitor, each with so many coins. */
    static MazeBonds people(int gardenerCoins, int visitorCoins) {
        MazeBonds maze = new MazeBonds();
        maze.gardener(gardenerCoins);
        maze.visitor(visitorCoins);
        return maze;
    }

    /** The same with a bond between them. */
    static MazeBonds bonded(int gardenerCoins, int visitorCoins, int rate) {
        MazeBonds maze = people(gardenerCoins, visitorCoins);
        maze.bond(0, 0, rate);
        return maze;
    }

    static MazeBonds withVisitors(int count) {
        MazeBonds maze = new MazeBonds();
        for (int visitor = 0; visitor < count; visitor++) {
            maze.visitor(20);
        }
        return maze;
    }

    /** A single way through all cells: 0 to 3, 7 to 4, 8 to 11, 15 to 12. */
    static MazeBonds winding() {
        MazeBonds maze = new MazeBonds();
        for (int cell : new int[] {0, 1, 2, 5, 6, 7, 8, 9, 10}) {
            maze.hedge(cell, cell + 4, 5);
        }
        return maze;
    }

    /** A maze in which no hedge is a gap: each has 5 leaves. */
    static MazeBonds closed() {
        MazeBonds maze = new MazeBonds();
        summers(maze, 5);
        return maze;
    }

    static void summers(MazeBonds maze, int count) {
        for (int summer = 0; summer < count; summer++) {
            maze.summer();
        }
    }

    static void walkAll(MazeBonds maze, int visitor, int... directions) {
        for (int direction : directions) {
            maze.walk(visitor, direction);
        }
    }

    /** Six hours, by the cells 1, 2, 3, 7 and 11. */
    static void walkOut(MazeBonds maze, int visitor) {
        walkAll(maze, visitor, EAST, EAST, EAST, SOUTH, SOUTH, SOUTH);
    }

    static boolean areNeighbours(int one, int other) {
        return Math.abs(one / 4 - other / 4) + Math.abs(one % 4 - other % 4) == 1;
    }

    static String lineOf(MazeBonds maze, int visitor) {
        return Expect.written(maze, maze.line(visitor));
    }

    static String rowOf(MazeBonds maze, int row) {
        return Expect.written(maze, maze.row(row));
    }

    static void due(String what, long got, long want) {
        Expect.due(what, got, want);
    }

    static void due(String what, boolean got, boolean want) {
        Expect.due(what, got, want);
    }

    static void due(String what, String got, String want) {
        Expect.due(what, got, want);
    }

    static void due(String what, double got, double want) {
        Expect.due(what, got, want);
    }

    static void visitorDue(MazeBonds maze, int visitor, int what, int want) {
        due("visitorOf(" + visitor + ", " + what + ")", maze.visitorOf(visitor, what), want);
    }

    static void gardenerDue(MazeBonds maze, int gardener, int what, int want) {
        due("gardenerOf(" + gardener + ", " + what + ")", maze.gardenerOf(gardener, what), want);
    }

    static void accountDue(MazeBonds maze, int what, int want) {
        due("account(" + what + ")", maze.account(what), want);
    }

    static void refused(MazeBonds maze, int reason, int detail, String what, Expect.Call call) {
        Expect.refused(maze, reason, detail, what, call);
    }

    /** Appends a text to a new maze and looks for the index of its fault, or -1. */
    static void faultDue(String text, int want) {
        MazeBonds maze = new MazeBonds();
        Expect.append(maze, text);
        String outcome = Expect.outcome(() -> maze.commands());
        due("there is a fault in '" + text + "'", outcome.equals("IllegalArgumentException"), want >= 0);
        due("faultPosition of '" + text + "'", maze.faultPosition(), want);
    }
}
