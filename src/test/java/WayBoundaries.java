/** The boundaries that the promises 11 to 21 name: hedges and ways. */
final class WayBoundaries extends Boundary {
    private static final String NO_CELLS = "Throws IndexOutOfBoundsException if there is no such cell, for either";
    private static final String NO_CELL = "Throws IndexOutOfBoundsException if there is no such cell";
    private static final String NO_NEIGHBOURS = "Throws NoSuchElementException if they are no neighbours";
    private static final String NO_WAY = "Throws NoSuchElementException if there is no way";

    private interface OfTwo {
        void ask(MazeBonds maze, int one, int other);
    }

    private interface OfOne {
        void ask(MazeBonds maze, int cell);
    }

    private interface Count {
        int of(MazeBonds maze, int one, int other);
    }

    private WayBoundaries() {
    }

    static void all() {
        noCells();
        noNeighbours();
        leavesAndGaps();
        hours(13, MazeBonds::hours);
        hours(14, MazeBonds::hoursAgain);
        next();
        nextNowhere();
        reached();
        trims(17, (maze, from, unused) -> maze.trims(from));
        trims(18, (maze, from, unused) -> maze.trimsAgain(from));
        isNeeded();
        closesIn();
        summersLeft();
    }

    private static void noCells() {
        noCells(11, MazeBonds::leaves);
        noCells(12, MazeBonds::isGap);
        noCells(13, MazeBonds::hours);
        noCells(14, MazeBonds::hoursAgain);
        noCells(19, MazeBonds::isNeeded);
        noCells(20, MazeBonds::closesIn);
        noCell(15, MazeBonds::next);
        noCell(16, MazeBonds::reached);
        noCell(17, MazeBonds::trims);
        noCell(18, MazeBonds::trimsAgain);
    }

    private static void noCells(int number, OfTwo call) {
        promise(number, NO_CELLS, () -> {
            for (MazeBonds maze : new MazeBonds[] {new MazeBonds(), closed()}) {
                for (int cell : BEYOND_CELLS) {
                    Expect.outOfBounds("the one cell " + cell, () -> call.ask(maze, cell, 0));
                    Expect.outOfBounds("the other cell " + cell, () -> call.ask(maze, 15, cell));
                    Expect.outOfBounds("both cells " + cell, () -> call.ask(maze, cell, cell));
                }
                Expect.outOfBounds("15 and 16", () -> call.ask(maze, 15, 16));
                Expect.outOfBounds("0 and -1", () -> call.ask(maze, 0, -1));
                due("0 and 1", Expect.outcome(() -> call.ask(maze, 0, 1)).startsWith("IndexOut"), false);
                due("15 and 14", Expect.outcome(() -> call.ask(maze, 15, 14)).startsWith("IndexOut"), false);
            }
        });
    }

    private static void noCell(int number, OfOne call) {
        promise(number, NO_CELL, () -> {
            for (MazeBonds maze : new MazeBonds[] {new MazeBonds(), closed()}) {
                for (int cell : BEYOND_CELLS) {
                    Expect.outOfBounds("the cell " + cell, () -> call.ask(maze, cell));
                }
                due("the cell 0", Expect.outcome(() -> call.ask(maze, 0)).startsWith("IndexOut"), false);
                due("the cell 15", Expect.outcome(() -> call.ask(maze, 15)).startsWith("IndexOut"), false);
            }
        });
    }

    private static void noNeighbours() {
        noNeighbours(11, MazeBonds::leaves);
        noNeighbours(19, MazeBonds::isNeeded);
        noNeighbours(20, MazeBonds::closesIn);
    }

    private static void noNeighbours(int number, OfTwo call) {
        promise(number, NO_NEIGHBOURS, () -> {
            MazeBonds maze = new MazeBonds();
            for (int one = 0; one < 16; one++) {
                for (int other = 0; other < 16; other++) {
                    int first = one;
                    int second = other;
                    String due = areNeighbours(one, other) ? "nothing" : "NoSuchElementException";
                    due(one + " and " + other, Expect.outcome(() -> call.ask(maze, first, second)), due);
                }
            }
        });
    }

    private static void leavesAndGaps() {
        promise(11, "Returns the leaves of a hedge.", () -> {
            MazeBonds maze = new MazeBonds();
            due("at first", maze.leaves(0, 4), 0);
            maze.hedge(0, 4, 9);
            due("9, from above", maze.leaves(0, 4), 9);
            due("9, from below", maze.leaves(4, 0), 9);
            due("of the last hedge", maze.leaves(15, 14), 0);
        });
        promise(12, "Returns whether there is, false if they are no neighbours.", () -> {
            MazeBonds maze = new MazeBonds();
            due("a gap at first", maze.isGap(15, 11), true);
            due("the end of a row and the begin of the next", maze.isGap(3, 4), false);
            due("the other way", maze.isGap(4, 3), false);
            due("two cells on", maze.isGap(0, 2), false);
            due("the first and the last cell", maze.isGap(0, 15), false);
            due("the first row and the last", maze.isGap(0, 12), false);
            due("aslant", maze.isGap(0, 5), false);
            due("a cell and itself", maze.isGap(15, 15), false);
        });
        promise(12, "Returns whether there is a gap between two cells.", () -> {
            MazeBonds maze = new MazeBonds();
            maze.hedge(0, 1, 4);
            due("4 leaves", maze.isGap(0, 1), true);
            maze.summer();
            due("5 leaves", maze.isGap(0, 1), false);
            due("5 leaves, the other way", maze.isGap(1, 0), false);
            maze.hedge(0, 1, 0);
            due("0 leaves", maze.isGap(1, 0), true);
        });
    }

    private static void hours(int number, Count hours) {
        String clause = number == 13 ? "Returns the fewest hours that a way takes: cell by cell, by their distance."
            : "Returns the same by a second way: by what each cell takes by its neighbours, until nothing becomes less.";
        promise(number, clause, () -> {
            MazeBonds open = new MazeBonds();
            due("to itself", hours.of(open, 15, 15), 0);
            due("to a neighbour", hours.of(open, 15, 14), 1);
            due("the end of a row and the begin of the next", hours.of(open, 3, 4), 4);
            due("from the entrance to the exit", hours.of(open, 0, 15), 6);
            due("from the exit to the entrance", hours.of(open, 15, 0), 6);
            MazeBonds maze = winding();
            due("the longest way", hours.of(maze, 0, 12), 15);
            due("the longest way back", hours.of(maze, 12, 0), 15);
            maze.hedge(4, 8, 4);
            due("by a gap with 4 leaves", hours.of(maze, 4, 8), 1);
            maze.hedge(0, 4, 4);
            due("a shorter way", hours.of(maze, 0, 12), 9);
        });
        promise(number, NO_WAY, () -> {
            MazeBonds maze = winding();
            maze.hedge(4, 8, 5);
            Expect.noSuch("to the other half", () -> hours.of(maze, 0, 8));
            Expect.noSuch("back", () -> hours.of(maze, 15, 7));
            due("within the half", hours.of(maze, 0, 4), 7);
            MazeBonds none = closed();
            Expect.noSuch("to a neighbour", () -> hours.of(none, 0, 1));
            for (int cell = 0; cell < 16; cell++) {
                due("to itself", hours.of(none, cell, cell), 0);
            }
        });
    }

    private static void next() {
        promise(15, "Returns the next cell on a way with the fewest hours to the exit, of several the lowest.", () -> {
            MazeBonds maze = new MazeBonds();
            int[] lowest = {1, 2, 3, 7, 5, 6, 7, 11, 9, 10, 11, 15, 13, 14, 15};
            for (int from = 0; from < 15; from++) {
                due("next from " + from, maze.next(from), lowest[from]);
            }
            maze.hedge(13, 14, 5);
            due("up, past a hedge", maze.next(13), 9);
            due("up or left: the lowest", maze.next(12), 8);
            MazeBonds bent = winding();
            due("to lesser numbers", bent.next(7), 6);
            due("to the row below", bent.next(3), 7);
            due("the one behind the exit", bent.next(12), 13);
            bent.hedge(14, 15, 5);
            bent.hedge(13, 9, 4);
            due("by a gap with 4 leaves", bent.next(14), 13);
        });
    }

    private static void nextNowhere() {
        promise(15, "Throws NoSuchElementException if there is no way, or it is the exit", () -> {
            MazeBonds maze = new MazeBonds();
            Expect.noSuch("the exit", () -> maze.next(15));
            maze.hedge(14, 15, 5);
            maze.hedge(11, 15, 4);
            due("by the last gap", maze.next(14), 10);
            maze.hedge(11, 15, 5);
            Expect.noSuch("no way from beside the exit", () -> maze.next(14));
            Expect.noSuch("no way from the entrance", () -> maze.next(0));
            Expect.noSuch("the exit without ways", () -> maze.next(15));
        });
    }

    private static void reached() {
        promise(16, "Returns the set of them, bit k for the cell k, that cell included.", () -> {
            MazeBonds open = new MazeBonds();
            due("all", open.reached(0), 0xffff);
            due("all from the exit", open.reached(15), 0xffff);
            MazeBonds none = closed();
            for (int cell = 0; cell < 16; cell++) {
                due("that cell alone", none.reached(cell), 1 << cell);
            }
        });
        promise(16, "Returns the cells to which ways go.", () -> {
            MazeBonds maze = winding();
            due("all, from an end of the longest way", maze.reached(12), 0xffff);
            due("all, from the other end", maze.reached(0), 0xffff);
            maze.hedge(4, 8, 5);
            due("the upper half", maze.reached(3), 0x00ff);
            due("the lower half", maze.reached(15), 0xff00);
            maze.hedge(3, 7, 5);
            due("the first row", maze.reached(3), 0x000f);
            due("the second row", maze.reached(4), 0x00f0);
        });
    }

    private static void trims(int number, Count trims) {
        String clause = number == 17
            ? "Returns how few hedges that are no gaps would have to be trimmed so that there is a way to the exit"
            : "Returns the same by a second way: by what each cell takes by its neighbours, until nothing becomes less.";
        promise(number, clause, () -> {
            MazeBonds open = new MazeBonds();
            due("a way", trims.of(open, 0, 0), 0);
            MazeBonds none = closed();
            for (int from = 0; from < 16; from++) {
                due("from " + from + " without gaps", trims.of(none, from, 0), 3 - from / 4 + 3 - from % 4);
            }
            none.hedge(0, 4, 4);
            due("a gap with 4 leaves need not be trimmed", trims.of(none, 0, 0), 5);
            none.hedge(4, 5, 6);
            due("more leaves cost no more", trims.of(none, 0, 0), 5);
            MazeBonds row = closed();
            int[] path = {1, 2, 3, 7, 11, 15};
            for (int step = 0; step < 5; step++) {
                row.hedge(path[step], path[step + 1], 0);
            }
            due("the first hedge alone", trims.of(row, 0, 0), 1);
            row.hedge(14, 15, 0);
            due("the last hedge alone", trims.of(row, 13, 0), 1);
            MazeBonds detour = winding();
            due("a long way is a way", trims.of(detour, 0, 0), 0);
            detour.hedge(7, 3, 9);
            due("one hedge to another long way", trims.of(detour, 0, 0), 1);
            detour.hedge(4, 8, 9);
            detour.hedge(11, 15, 9);
            detour.hedge(14, 15, 9);
            due("a hedge at each row", trims.of(detour, 0, 0), 3);
            due("from the exit itself", trims.of(detour, 15, 0), 0);
        });
        if (number == 17) {
            promise(number, "by the number of hedges, one more each time.", () -> {
                MazeBonds maze = closed();
                int[] path = {0, 4, 8, 12, 13, 14, 15};
                for (int step = 0; step < 6; step++) {
                    due("hedges left", trims.of(maze, 0, 0), 6 - step);
                    maze.hedge(path[step], path[step + 1], 0);
                }
                due("none left", trims.of(maze, 0, 0), 0);
            });
        }
    }

    private static void isNeeded() {
        promise(19, "Returns whether there is a way from the entrance to the exit,", () -> {
            MazeBonds maze = winding();
            due("a gap on the only way", maze.isNeeded(0, 1), true);
            due("the same the other way round", maze.isNeeded(1, 0), true);
            due("the gap into the exit", maze.isNeeded(11, 15), true);
            due("a gap behind the exit", maze.isNeeded(14, 15), false);
            maze.hedge(11, 15, 5);
            due("a gap on what was the only way", maze.isNeeded(0, 1), false);
            due("the hedge that closes it", maze.isNeeded(11, 15), false);
        });
        promise(19, "but there would be none if a gap was closed.", () -> {
            MazeBonds maze = new MazeBonds();
            for (int one = 0; one < 16; one++) {
                for (int other = one + 1; other < 16; other++) {
                    if (areNeighbours(one, other)) {
                        due("no gap of a new maze", maze.isNeeded(one, other), false);
                    }
                }
            }
            maze.hedge(11, 15, 5);
            due("the last gap to the exit", maze.isNeeded(14, 15), true);
            maze.hedge(14, 15, 4);
            due("the last gap with 4 leaves", maze.isNeeded(14, 15), true);
            due("another gap", maze.isNeeded(13, 14), false);
            due("the leaves are as before", maze.leaves(14, 15), 4);
            due("it is a gap as before", maze.isGap(14, 15), true);
        });
    }

    private static void closesIn() {
        promise(20, "Returns by which, 1 for the next one, 0 if it is closed already.", () -> {
            MazeBonds maze = new MazeBonds();
            int[] summers = {5, 4, 3, 2, 1, 0, 0, 0, 0, 0};
            for (int leaves = 0; leaves <= 9; leaves++) {
                if (leaves > 0) {
                    maze.hedge(3, 7, leaves);
                }
                due("with " + leaves + " leaves", maze.closesIn(7, 3), summers[leaves]);
            }
        });
        promise(20, "Returns by which summer from now on a gap closes, if nothing else is done.", () -> {
            MazeBonds maze = new MazeBonds();
            for (int summer = 1; summer <= 5; summer++) {
                due("closes in", maze.closesIn(0, 1), 6 - summer);
                due("it is a gap until then", maze.isGap(0, 1), true);
                maze.summer();
            }
            due("closed", maze.isGap(0, 1), false);
            due("closed already", maze.closesIn(0, 1), 0);
        });
    }

    private static void summersLeft() {
        promise(21, "Returns how many, the last one included, 0 if there is none now.", () -> {
            MazeBonds maze = new MazeBonds();
            for (int left = 5; left >= 0; left--) {
                due("summers left", maze.summersLeft(), left);
                due("there is a way until then", Expect.outcome(() -> maze.hours(0, 15)).equals("nothing"), left > 0);
                maze.summer();
            }
            due("none when all is closed", maze.summersLeft(), 0);
        });
        promise(21, "Returns how many summers can go by, one after the other, until there is no way from the entrance to "
            + "the exit any more.", () -> {
            MazeBonds maze = new MazeBonds();
            maze.hedge(11, 15, 4);
            due("by the other gap", maze.summersLeft(), 5);
            maze.hedge(14, 15, 3);
            due("by the better of two", maze.summersLeft(), 2);
            maze.hedge(14, 15, 4);
            due("by gaps with 4 leaves", maze.summersLeft(), 1);
            maze.hedge(11, 15, 5);
            due("by the last gap", maze.summersLeft(), 1);
            maze.hedge(14, 15, 9);
            due("by none", maze.summersLeft(), 0);
            accountDue(maze, 6, 0);
            due("the leaves are as before", maze.leaves(0, 1), 0);
        });
    }
}
