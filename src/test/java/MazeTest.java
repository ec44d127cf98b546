/** The hedges, summers and the minotaur: promises 1 to 5, 11, 12, 20, 21, 33 and 36. */
public final class MazeTest {
    private static final int[][] HEDGES = {
        {0, 1}, {1, 2}, {2, 3}, {4, 5}, {5, 6}, {6, 7}, {8, 9}, {9, 10}, {10, 11}, {12, 13}, {13, 14}, {14, 15},
        {0, 4}, {1, 5}, {2, 6}, {3, 7}, {4, 8}, {5, 9}, {6, 10}, {7, 11}, {8, 12}, {9, 13}, {10, 14}, {11, 15}};

    public static void main(String[] args) {
        promise1NewObject();
        promise2Hedge();
        promise2HedgeRefused();
        promise3Summer();
        promise4Trim();
        promise4TrimRefused();
        promise5Minotaur();
        promise5MinotaurRefused();
        promise11Leaves();
        promise12IsGap();
        promise20ClosesIn();
        promise21SummersLeft();
        promise33Row();
        promise36GapShare();
        Expect.end();
    }

    private static void promise1NewObject() {
        MazeBonds maze = new MazeBonds();
        for (int[] hedge : HEDGES) {
            Expect.due("new: leaves", maze.leaves(hedge[0], hedge[1]), 0);
        }
        for (int what = 0; what < 12; what++) {
            Expect.due("new: account " + what, maze.account(what), what == 5 ? 24 : 0);
        }
        Expect.due("new: faultPosition", maze.faultPosition(), -1);
        Expect.refused(maze, 3, -1, "new: there is no minotaur", () -> maze.minotaur(-1));
        MazeBonds other = new MazeBonds();
        other.hedge(0, 1, 3);
        Expect.due("two objects share nothing", maze.leaves(0, 1), 0);
    }

    private static void promise2Hedge() {
        MazeBonds maze = new MazeBonds();
        Expect.due("hedge tells", maze.hedge(0, 1, 9), 0);
        Expect.due("hedge answers the leaves before", maze.hedge(1, 0, 4), 9);
        Expect.due("hedge to 0", maze.hedge(0, 1, 0), 4);
        for (int i = 0; i < HEDGES.length; i++) {
            maze.hedge(HEDGES[i][1], HEDGES[i][0], 1 + i % 9);
        }
        for (int i = 0; i < HEDGES.length; i++) {
            Expect.due("each hedge has leaves of its own", maze.leaves(HEDGES[i][0], HEDGES[i][1]), 1 + i % 9);
        }
    }

    private static void promise2HedgeRefused() {
        MazeBonds maze = new MazeBonds();
        Expect.refused(maze, 1, 0, "hedge(-1, 0, 1)", () -> maze.hedge(-1, 0, 1));
        Expect.refused(maze, 1, 0, "hedge(0, -1, 1)", () -> maze.hedge(0, -1, 1));
        Expect.refused(maze, 1, 0, "hedge(16, 15, 1)", () -> maze.hedge(16, 15, 1));
        Expect.refused(maze, 1, 0, "hedge(12, 16, 1)", () -> maze.hedge(12, 16, 1));
        Expect.refused(maze, 1, 0, "hedge(0, 1, -1)", () -> maze.hedge(0, 1, -1));
        Expect.refused(maze, 1, 0, "hedge(0, 1, 10)", () -> maze.hedge(0, 1, 10));
        Expect.refused(maze, 1, 0, "the leaves come ahead of the neighbours", () -> maze.hedge(0, 2, 10));
        Expect.refused(maze, 1, 0, "hedge of the extremes",
            () -> maze.hedge(Integer.MIN_VALUE, Integer.MAX_VALUE, Integer.MIN_VALUE));
        Expect.refused(maze, 2, 4, "hedge(3, 4, 1)", () -> maze.hedge(3, 4, 1));
        Expect.refused(maze, 2, 8, "hedge(8, 7, 1)", () -> maze.hedge(8, 7, 1));
        Expect.refused(maze, 2, 5, "a cell is no neighbour of itself", () -> maze.hedge(5, 5, 0));
        Expect.refused(maze, 2, 5, "hedge(5, 0, 0): no neighbours come ahead", () -> maze.hedge(5, 0, 0));
        Expect.refused(maze, 3, 0, "hedge(0, 1, 0)", () -> maze.hedge(0, 1, 0));
        maze.hedge(0, 1, 7);
        Expect.refused(maze, 3, 7, "hedge(1, 0, 7)", () -> maze.hedge(1, 0, 7));
        Expect.due("a refused hedge changes nothing", maze.leaves(0, 1), 7);
        Expect.due("a refused hedge can't be undone", maze.account(10), 1);
    }

    private static void promise3Summer() {
        MazeBonds maze = new MazeBonds();
        maze.hedge(0, 1, 4);
        maze.hedge(1, 2, 5);
        maze.hedge(2, 3, 9);
        maze.hedge(14, 15, 4);
        maze.hedge(11, 15, 3);
        Expect.due("summer answers the gaps that close", maze.summer(), 2);
        Expect.due("summer: 4 to 5", maze.leaves(0, 1), 5);
        Expect.due("summer: 5 to 6", maze.leaves(1, 2), 6);
        Expect.due("summer: 9 stays", maze.leaves(2, 3), 9);
        Expect.due("summer: 3 to 4", maze.leaves(11, 15), 4);
        Expect.due("summer: 0 to 1", maze.leaves(4, 8), 1);
        Expect.due("next summer", maze.summer(), 1);
        for (int i = 0; i < 20; i++) {
            maze.summer();
        }
        for (int[] hedge : HEDGES) {
            Expect.due("up to 9 leaves", maze.leaves(hedge[0], hedge[1]), 9);
        }
        Expect.due("a summer when all have 9", maze.summer(), 0);
        Expect.due("every summer counts", maze.account(6), 23);
    }

    private static void promise4Trim() {
        MazeBonds maze = new MazeBonds();
        maze.gardener(50);
        maze.gardener(4);
        maze.hedge(6, 10, 9);
        maze.hedge(6, 7, 1);
        Expect.due("trim answers the coins then", maze.trim(1, 10, 6), 2);
        Expect.due("trim: no leaves then", maze.leaves(6, 10), 0);
        Expect.due("a gap can be trimmed", maze.trim(1, 6, 7), 0);
        Expect.due("a gap has no leaves then", maze.leaves(6, 7), 0);
        Expect.due("the hedges trimmed", maze.gardenerOf(1, 4), 2);
        Expect.due("the other gardener has trimmed none", maze.gardenerOf(0, 4), 0);
        Expect.due("the other gardener's coins", maze.gardenerOf(0, 0), 50);
        Expect.due("coins spent on trimming", maze.account(8), 4);
        Expect.due("they are gone", maze.account(9), 50);
    }

    private static void promise4TrimRefused() {
        MazeBonds maze = new MazeBonds();
        Expect.refused(maze, 4, 0, "trim without gardeners", () -> maze.trim(0, 16, 16));
        maze.gardener(1);
        maze.gardener(0);
        Expect.refused(maze, 4, 2, "trim(-1, 0, 1)", () -> maze.trim(-1, 0, 1));
        Expect.refused(maze, 4, 2, "trim(2, 0, 1)", () -> maze.trim(2, 0, 1));
        Expect.refused(maze, 1, 0, "trim(0, 0, 16)", () -> maze.trim(0, 0, 16));
        Expect.refused(maze, 1, 0, "trim(0, -4, 0)", () -> maze.trim(0, -4, 0));
        Expect.refused(maze, 2, 6, "trim(0, 6, 1)", () -> maze.trim(0, 6, 1));
        Expect.refused(maze, 3, 0, "no leaves come ahead of the coins", () -> maze.trim(0, 0, 1));
        maze.hedge(0, 1, 2);
        Expect.refused(maze, 5, 1, "trim(0, 0, 1) with 1 coin", () -> maze.trim(0, 0, 1));
        Expect.refused(maze, 5, 2, "trim(1, 0, 1) without coins", () -> maze.trim(1, 0, 1));
        Expect.due("a refused trim changes no leaves", maze.leaves(0, 1), 2);
        Expect.due("a refused trim takes no coins", maze.gardenerOf(0, 0), 1);
        Expect.due("a refused trim is not counted", maze.gardenerOf(0, 4) + maze.account(8), 0);
    }

    private static void promise5Minotaur() {
        MazeBonds maze = new MazeBonds();
        maze.gardener(20);
        maze.visitor(20);
        maze.visitor(20);
        maze.visitor(20);
        maze.bond(0, 0, 1);
        maze.bond(0, 2, 2);
        maze.walk(2, 1);
        Expect.due("minotaur meets with and without bonds", maze.minotaur(0), 2);
        Expect.due("the bond is void", maze.visitorOf(0, 7), 1);
        Expect.due("no bond, nothing void", maze.visitorOf(1, 7), 0);
        Expect.due("who is elsewhere does not meet him", maze.visitorOf(2, 7), 0);
        Expect.due("minotaur goes", maze.minotaur(-1), 0);
        Expect.due("a void bond stays void", maze.visitorOf(0, 7), 1);
        Expect.due("minotaur comes to one", maze.minotaur(1), 1);
        Expect.due("that bond is void", maze.visitorOf(2, 7), 1);
        Expect.due("void bonds", maze.account(4), 2);
        Expect.due("minotaur into the exit", maze.minotaur(15), 0);
        Expect.due("minotaur into an empty cell", maze.minotaur(9), 0);
    }

    private static void promise5MinotaurRefused() {
        MazeBonds maze = new MazeBonds();
        Expect.refused(maze, 1, 0, "minotaur(-2)", () -> maze.minotaur(-2));
        Expect.refused(maze, 1, 0, "minotaur(16)", () -> maze.minotaur(16));
        Expect.refused(maze, 3, -1, "minotaur(-1)", () -> maze.minotaur(-1));
        maze.minotaur(13);
        Expect.refused(maze, 3, 13, "minotaur(13)", () -> maze.minotaur(13));
        maze.visitor(1);
        for (int direction : new int[] {1, 1, 1, 2, 2, 2}) {
            maze.walk(0, direction);
        }
        Expect.due("who is out does not meet him", maze.minotaur(15), 0);
    }

    private static void promise11Leaves() {
        MazeBonds maze = new MazeBonds();
        maze.hedge(5, 9, 6);
        Expect.due("leaves", maze.leaves(5, 9), 6);
        Expect.due("leaves the other way", maze.leaves(9, 5), 6);
        Expect.outOfBounds("leaves(-1, 0)", () -> maze.leaves(-1, 0));
        Expect.outOfBounds("leaves(0, -1)", () -> maze.leaves(0, -1));
        Expect.outOfBounds("leaves(16, 0)", () -> maze.leaves(16, 0));
        Expect.outOfBounds("leaves(15, 16)", () -> maze.leaves(15, 16));
        Expect.noSuch("leaves(0, 0)", () -> maze.leaves(0, 0));
        Expect.noSuch("leaves(3, 4)", () -> maze.leaves(3, 4));
        Expect.noSuch("leaves(0, 5)", () -> maze.leaves(0, 5));
    }

    private static void promise12IsGap() {
        MazeBonds maze = new MazeBonds();
        maze.hedge(0, 1, 4);
        maze.hedge(1, 2, 5);
        Expect.due("4 leaves are a gap", maze.isGap(1, 0), true);
        Expect.due("5 leaves are none", maze.isGap(1, 2), false);
        Expect.due("no neighbours", maze.isGap(3, 4), false);
        Expect.due("the same cell", maze.isGap(7, 7), false);
        Expect.outOfBounds("isGap(16, 15)", () -> maze.isGap(16, 15));
        Expect.outOfBounds("isGap(15, 16)", () -> maze.isGap(15, 16));
        Expect.outOfBounds("isGap(-1, 0)", () -> maze.isGap(-1, 0));
        Expect.outOfBounds("isGap(0, -1)", () -> maze.isGap(0, -1));
    }

    private static void promise20ClosesIn() {
        MazeBonds maze = new MazeBonds();
        int[] due = {5, 4, 3, 2, 1, 0, 0, 0, 0, 0};
        for (int leaves = 0; leaves < 10; leaves++) {
            if (leaves > 0) {
                maze.hedge(0, 4, leaves);
            }
            Expect.due("closesIn with " + leaves + " leaves", maze.closesIn(4, 0), due[leaves]);
        }
        Expect.outOfBounds("closesIn(0, 16)", () -> maze.closesIn(0, 16));
        Expect.outOfBounds("closesIn(-1, 16)", () -> maze.closesIn(-1, 16));
        Expect.noSuch("closesIn(0, 2)", () -> maze.closesIn(0, 2));
        Expect.noSuch("closesIn(15, 15)", () -> maze.closesIn(15, 15));
    }

    private static void promise21SummersLeft() {
        MazeBonds maze = new MazeBonds();
        Expect.due("summersLeft of a new maze", maze.summersLeft(), 5);
        maze.hedge(0, 1, 2);
        Expect.due("a better way is left", maze.summersLeft(), 5);
        maze.hedge(0, 4, 3);
        Expect.due("the better of two", maze.summersLeft(), 3);
        maze.hedge(14, 15, 4);
        maze.hedge(11, 15, 9);
        Expect.due("the worst gap of a way", maze.summersLeft(), 1);
        Expect.due("the leaves are as before", maze.leaves(14, 15), 4);
        maze.summer();
        Expect.due("no way now", maze.summersLeft(), 0);
    }

    private static void promise33Row() {
        MazeBonds maze = new MazeBonds();
        Expect.due("row 0", Expect.written(maze, maze.row(0)), "0 0 0 0");
        maze.visitor(0);
        maze.visitor(0);
        maze.visitor(0);
        maze.walk(2, 2);
        maze.hedge(0, 1, 5);
        maze.hedge(1, 2, 4);
        maze.hedge(6, 7, 9);
        maze.minotaur(2);
        Expect.due("row 0 with visitors", Expect.written(maze, maze.row(0)), "2|0 M 0");
        Expect.due("row 1", Expect.written(maze, maze.row(1)), "1 0 0|0");
        maze.minotaur(4);
        Expect.due("the minotaur comes ahead of visitors", Expect.written(maze, maze.row(1)), "M 0 0|0");
        maze.hedge(3, 7, 9);
        Expect.due("hedges below do not show", Expect.written(maze, maze.row(0)), "2|0 0 0");
        for (int direction : new int[] {2, 2, 1, 1, 1}) {
            maze.walk(2, direction);
        }
        Expect.due("who is out is not in the maze", Expect.written(maze, maze.row(3)), "0 0 0 0");
        maze.minotaur(15);
        Expect.due("the minotaur in the exit", Expect.written(maze, maze.row(3)), "0 0 0 M");
        Expect.wrongArgument("row(-1)", () -> maze.row(-1));
        Expect.wrongArgument("row(4)", () -> maze.row(4));
        Expect.due("a wrong row leaves the line", Expect.written(maze, 7), "0 0 0 M");
    }

    private static void promise36GapShare() {
        MazeBonds maze = new MazeBonds();
        Expect.due("gapShare of a new maze", maze.gapShare(), 1.0f);
        maze.hedge(0, 1, 5);
        maze.hedge(1, 2, 4);
        Expect.due("gapShare 23 of 24", maze.gapShare(), 23.0f / 24.0f);
        for (int i = 0; i < 5; i++) {
            maze.summer();
        }
        Expect.due("gapShare without gaps", maze.gapShare(), 0.0f);
    }
}
