/** The ways through the maze: promises 13 to 19. */
public final class WaysTest {
    public static void main(String[] args) {
        promises13And14Hours();
        promise15Next();
        promise16Reached();
        promises17And18Trims();
        promise19IsNeeded();
        Expect.end();
    }

    /** A single way through all cells: 0 to 3, 7 to 4, 8 to 11, 15 to 12. */
    private static MazeBonds winding() {
        MazeBonds maze = new MazeBonds();
        for (int cell : new int[] {0, 1, 2, 5, 6, 7, 8, 9, 10}) {
            maze.hedge(cell, cell + 4, 5);
        }
        return maze;
    }

    private static void hoursDue(MazeBonds maze, int from, int to, int want) {
        Expect.due("hours " + from + " " + to, maze.hours(from, to), want);
        // Another search between the two, lest the second should live on what the first has left.
        maze.trimsAgain(from);
        Expect.due("hoursAgain " + from + " " + to, maze.hoursAgain(from, to), want);
    }

    private static void promises13And14Hours() {
        for (int from = 0; from < 16; from++) {
            MazeBonds open = new MazeBonds();
            for (int to = 0; to < 16; to++) {
                int rows = Math.abs(from / 4 - to / 4);
                int columns = Math.abs(from % 4 - to % 4);
                hoursDue(open, from, to, rows + columns);
            }
        }
        MazeBonds maze = winding();
        hoursDue(maze, 0, 4, 7);
        hoursDue(maze, 4, 0, 7);
        hoursDue(maze, 0, 15, 12);
        hoursDue(maze, 0, 12, 15);
        maze.hedge(0, 4, 4);
        hoursDue(maze, 0, 4, 1);
        hoursDue(maze, 0, 15, 6);
        maze.hedge(8, 4, 5);
        hoursDue(maze, 8, 12, 7);
        Expect.noSuch("hours without a way", () -> maze.hours(0, 15));
        Expect.noSuch("hoursAgain without a way", () -> maze.hoursAgain(0, 15));
        hoursDue(maze, 15, 15, 0);
        for (int wrong : new int[] {-1, 16, Integer.MAX_VALUE, Integer.MIN_VALUE}) {
            Expect.outOfBounds("hours from " + wrong, () -> maze.hours(wrong, 0));
            Expect.outOfBounds("hours to " + wrong, () -> maze.hours(0, wrong));
            Expect.outOfBounds("hoursAgain from " + wrong, () -> maze.hoursAgain(wrong, 0));
            Expect.outOfBounds("hoursAgain to " + wrong, () -> maze.hoursAgain(0, wrong));
        }
    }

    private static void promise15Next() {
        MazeBonds maze = new MazeBonds();
        int[] due = {1, 2, 3, 7, 5, 6, 7, 11, 9, 10, 11, 15, 13, 14, 15};
        for (int from = 0; from < 15; from++) {
            Expect.due("next " + from + ", of several the lowest", maze.next(from), due[from]);
        }
        maze.hedge(0, 1, 5);
        Expect.due("next past a hedge", maze.next(0), 4);
        MazeBonds bent = winding();
        Expect.due("next on the only way", bent.next(6), 5);
        Expect.due("next up a row", bent.next(12), 13);
        bent.hedge(12, 13, 9);
        bent.hedge(8, 12, 0);
        Expect.due("next to the row above", bent.next(12), 8);
        Expect.noSuch("next of the exit", () -> maze.next(15));
        maze.hedge(0, 4, 5);
        Expect.noSuch("next without a way", () -> maze.next(0));
        Expect.outOfBounds("next(16)", () -> maze.next(16));
        Expect.outOfBounds("next(-1)", () -> maze.next(-1));
    }

    private static void promise16Reached() {
        MazeBonds maze = new MazeBonds();
        Expect.due("reached of a new maze", maze.reached(7), 0xffff);
        maze.hedge(14, 15, 5);
        maze.hedge(11, 15, 6);
        Expect.due("reached without the exit", maze.reached(0), 0x7fff);
        Expect.due("reached from the exit", maze.reached(15), 0x8000);
        for (int cell = 4; cell < 8; cell++) {
            maze.hedge(cell, cell + 4, 9);
        }
        Expect.due("reached: the upper half", maze.reached(6), 0x00ff);
        Expect.due("reached: the lower half", maze.reached(12), 0x7f00);
        Expect.due("reached on a winding way", winding().reached(12), 0xffff);
        Expect.outOfBounds("reached(-1)", () -> maze.reached(-1));
        Expect.outOfBounds("reached(16)", () -> maze.reached(16));
    }

    private static void trimsDue(MazeBonds maze, int from, int want) {
        Expect.due("trims " + from, maze.trims(from), want);
        Expect.due("trimsAgain " + from, maze.trimsAgain(from), want);
    }

    private static void promises17And18Trims() {
        MazeBonds maze = new MazeBonds();
        trimsDue(maze, 0, 0);
        maze.hedge(0, 1, 5);
        trimsDue(maze, 0, 0);
        maze.hedge(0, 4, 5);
        trimsDue(maze, 0, 1);
        trimsDue(maze, 1, 0);
        for (int i = 0; i < 5; i++) {
            maze.summer();
        }
        for (int from = 0; from < 16; from++) {
            trimsDue(maze, from, 3 - from / 4 + 3 - from % 4);
        }
        maze.hedge(0, 4, 0);
        maze.hedge(4, 8, 0);
        maze.hedge(8, 12, 0);
        trimsDue(maze, 0, 3);
        trimsDue(maze, 1, 4);
        MazeBonds detour = winding();
        trimsDue(detour, 0, 0);
        detour.hedge(3, 7, 9);
        detour.hedge(2, 3, 9);
        trimsDue(detour, 3, 1);
        trimsDue(detour, 2, 1);
        for (int wrong : new int[] {-1, 16}) {
            Expect.outOfBounds("trims(" + wrong + ")", () -> maze.trims(wrong));
            Expect.outOfBounds("trimsAgain(" + wrong + ")", () -> maze.trimsAgain(wrong));
        }
    }

    private static void promise19IsNeeded() {
        MazeBonds maze = new MazeBonds();
        Expect.due("two ways from the entrance", maze.isNeeded(0, 1), false);
        maze.hedge(0, 4, 5);
        Expect.due("one way from the entrance", maze.isNeeded(1, 0), true);
        Expect.due("what is no gap is not needed", maze.isNeeded(0, 4), false);
        Expect.due("a gap beside", maze.isNeeded(5, 6), false);
        MazeBonds bent = winding();
        Expect.due("a gap on the only way", bent.isNeeded(6, 5), true);
        Expect.due("a gap behind the exit", bent.isNeeded(12, 13), false);
        bent.hedge(8, 9, 5);
        Expect.due("no way at all: before the break", bent.isNeeded(0, 1), false);
        Expect.due("no way at all: the break", bent.isNeeded(8, 9), false);
        Expect.outOfBounds("isNeeded(0, 16)", () -> maze.isNeeded(0, 16));
        Expect.outOfBounds("isNeeded(-1, 0)", () -> maze.isNeeded(-1, 0));
        Expect.noSuch("isNeeded(0, 2)", () -> maze.isNeeded(0, 2));
        Expect.noSuch("isNeeded(3, 3)", () -> maze.isNeeded(3, 3));
    }
}
