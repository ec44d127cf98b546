/** The boundaries that the terms name of reasons: which one applies, and with what detail. */
final class RefusalBoundaries extends Boundary {
    private RefusalBoundaries() {
    }

    static void all() {
        inOrder();
        outOfRange();
        cellsAndSoAlready();
        gardenersAndCoins();
        waysAndVisitors();
        bondsAndOut();
        minotaurAndMaze();
        fullAndDetail();
        kept();
    }

    private static void inOrder() {
        term("Something is refused for the first that applies of the reasons that its method names,", () -> {
            MazeBonds maze = new MazeBonds();
            refused(maze, 4, 0, "bond: gardener, visitor, rate", () -> maze.bond(0, 0, 6));
            maze.gardener(1);
            refused(maze, 7, 0, "bond: visitor, rate", () -> maze.bond(0, 0, 6));
            maze.visitor(1);
            maze.minotaur(0);
            refused(maze, 1, 0, "bond: rate, minotaur, coins", () -> maze.bond(0, 0, 6));
            refused(maze, 10, 0, "bond: minotaur, coins", () -> maze.bond(0, 0, 1));
            maze.minotaur(1);
            refused(maze, 5, 1, "bond: coins", () -> maze.bond(0, 0, 1));
        });
        term("in the order in which it names them", () -> {
            MazeBonds maze = people(1, 1);
            refused(maze, 4, 1, "trim: gardener, number", () -> maze.trim(1, 0, 16));
            refused(maze, 1, 0, "trim: number, neighbours", () -> maze.trim(0, 0, 16));
            refused(maze, 2, 2, "trim: neighbours, coins", () -> maze.trim(0, 0, 2));
            refused(maze, 3, 0, "trim: no leaves, coins", () -> maze.trim(0, 0, 1));
            refused(maze, 1, 0, "hedge: number, neighbours", () -> maze.hedge(0, 2, 10));
            refused(maze, 2, 2, "hedge: neighbours, so already", () -> maze.hedge(0, 2, 0));
            refused(maze, 7, 1, "walk: visitor, number", () -> maze.walk(1, 4));
            refused(maze, 7, 1, "rest: visitor, number", () -> maze.rest(1, 0));
            walkOut(maze, 0);
            refused(maze, 1, 0, "walk: number, out", () -> maze.walk(0, 4));
            refused(maze, 9, 6, "walk: out, the maze ends", () -> maze.walk(0, EAST));
            maze.hedge(11, 15, 5);
            refused(maze, 9, 6, "walk: out, a hedge", () -> maze.walk(0, NORTH));
            refused(maze, 1, 0, "rest: number, out", () -> maze.rest(0, 10));
            refused(maze, 1, 0, "bond: rate, out", () -> maze.bond(0, 0, 0));
            maze.minotaur(15);
            refused(maze, 9, 6, "bond: out, minotaur, coins", () -> maze.bond(0, 0, 1));
        });
    }

    private static void outOfRange() {
        term("1, a number is out of range", () -> {
            MazeBonds maze = people(9, 9);
            for (int cell : BEYOND_CELLS) {
                refused(maze, 1, 0, "hedge", () -> maze.hedge(cell, 0, 1));
                refused(maze, 1, 0, "hedge", () -> maze.hedge(0, cell, 1));
                refused(maze, 1, 0, "trim", () -> maze.trim(0, cell, 0));
                refused(maze, 1, 0, "trim", () -> maze.trim(0, 0, cell));
            }
            for (int number : new int[] {Integer.MIN_VALUE, -1, 100, Integer.MAX_VALUE}) {
                refused(maze, 1, 0, "hedge", () -> maze.hedge(0, 1, number));
                refused(maze, 1, 0, "gardener", () -> maze.gardener(number));
                refused(maze, 1, 0, "visitor", () -> maze.visitor(number));
                refused(maze, 1, 0, "bond", () -> maze.bond(0, 0, number));
                refused(maze, 1, 0, "walk", () -> maze.walk(0, number));
                refused(maze, 1, 0, "rest", () -> maze.rest(0, number));
            }
            for (int cell : new int[] {Integer.MIN_VALUE, -2, 16, Integer.MAX_VALUE}) {
                refused(maze, 1, 0, "minotaur", () -> maze.minotaur(cell));
            }
        });
    }

    private static void cellsAndSoAlready() {
        term("2, the cells are no neighbours: the greater one", () -> {
            MazeBonds maze = people(9, 9);
            refused(maze, 2, 4, "hedge from one row to the next", () -> maze.hedge(3, 4, 1));
            refused(maze, 2, 4, "hedge the other way", () -> maze.hedge(4, 3, 1));
            refused(maze, 2, 15, "hedge from end to end", () -> maze.hedge(15, 0, 1));
            refused(maze, 2, 12, "trim from one row to the next", () -> maze.trim(0, 12, 11));
            refused(maze, 2, 8, "trim two rows below", () -> maze.trim(0, 0, 8));
            refused(maze, 2, 0, "trim from the first cell to itself", () -> maze.trim(0, 0, 0));
            refused(maze, 2, 15, "hedge from the last cell to itself", () -> maze.hedge(15, 15, 1));
        });
        term("3, it is so already: the number that is told", () -> {
            MazeBonds maze = new MazeBonds();
            refused(maze, 3, 0, "hedge with 0 leaves", () -> maze.hedge(0, 1, 0));
            maze.hedge(0, 1, 9);
            refused(maze, 3, 9, "hedge with 9 leaves", () -> maze.hedge(0, 1, 9));
            refused(maze, 3, NONE, "the minotaur in none", () -> maze.minotaur(NONE));
            maze.minotaur(0);
            refused(maze, 3, 0, "the minotaur in the first cell", () -> maze.minotaur(0));
            maze.minotaur(15);
            refused(maze, 3, 15, "the minotaur in the last cell", () -> maze.minotaur(15));
        });
    }

    private static void gardenersAndCoins() {
        term("4, there is no such gardener: how many there are", () -> {
            MazeBonds maze = new MazeBonds();
            for (int count = 0; count <= 4; count++) {
                int first = count;
                refused(maze, 4, count, "trim", () -> maze.trim(first, 0, 1));
                refused(maze, 4, count, "bond", () -> maze.bond(first, 0, 1));
                refused(maze, 4, count, "trim with -1", () -> maze.trim(-1, 0, 1));
                refused(maze, 4, count, "bond with -1", () -> maze.bond(-1, 0, 1));
                if (count < 4) {
                    maze.gardener(9);
                }
            }
        });
        term("5, there are too few coins: how many are lacking", () -> {
            MazeBonds maze = people(0, 0);
            maze.gardener(1);
            maze.visitor(9);
            maze.hedge(0, 1, 1);
            refused(maze, 5, 2, "trim without coins", () -> maze.trim(0, 0, 1));
            refused(maze, 5, 1, "trim with 1 coin", () -> maze.trim(1, 0, 1));
            refused(maze, 5, 2, "bond without coins", () -> maze.bond(0, 0, 1));
            refused(maze, 5, 10, "bond without coins at the rate 5", () -> maze.bond(0, 0, 5));
            refused(maze, 5, 1, "bond with 9 coins", () -> maze.bond(0, 1, 5));
        });
    }

    private static void waysAndVisitors() {
        term("6, there is no way to the exit: how many cells are reached", () -> {
            MazeBonds maze = new MazeBonds();
            maze.hedge(11, 15, 5);
            maze.hedge(14, 15, 5);
            refused(maze, 6, 15, "all but the exit", () -> maze.visitor(1));
            maze.hedge(0, 1, 5);
            maze.hedge(4, 5, 5);
            maze.hedge(4, 8, 5);
            refused(maze, 6, 2, "two cells", () -> maze.visitor(1));
            maze.hedge(0, 4, 5);
            refused(maze, 6, 1, "the entrance alone", () -> maze.visitor(1));
            accountDue(maze, 1, 0);
        });
        term("7, there is no such visitor: how many there are", () -> {
            MazeBonds maze = new MazeBonds();
            maze.gardener(9);
            for (int count = 0; count <= 5; count++) {
                int first = count;
                refused(maze, 7, count, "bond", () -> maze.bond(0, first, 1));
                refused(maze, 7, count, "walk", () -> maze.walk(first, 0));
                refused(maze, 7, count, "rest", () -> maze.rest(first, 1));
                refused(maze, 7, count, "bond with -1", () -> maze.bond(0, -1, 1));
                refused(maze, 7, count, "walk with -1", () -> maze.walk(-1, 0));
                refused(maze, 7, count, "rest with -1", () -> maze.rest(-1, 1));
                if (count < 5) {
                    maze.visitor(9);
                }
            }
        });
    }

    private static void bondsAndOut() {
        term("8, the visitor has a bond: whose", () -> {
            MazeBonds maze = withVisitors(2);
            for (int gardener = 0; gardener < 4; gardener++) {
                maze.gardener(9);
            }
            maze.bond(0, 0, 1);
            maze.bond(3, 1, 1);
            refused(maze, 8, 0, "a bond of the first gardener", () -> maze.bond(3, 0, 1));
            refused(maze, 8, 3, "a bond of the last gardener", () -> maze.bond(0, 1, 1));
        });
        term("9, the visitor is out: the hours spent", () -> {
            MazeBonds maze = people(9, 9);
            maze.visitor(9);
            maze.rest(1, 9);
            walkOut(maze, 0);
            walkOut(maze, 1);
            refused(maze, 9, 6, "walk", () -> maze.walk(0, NORTH));
            refused(maze, 9, 15, "rest", () -> maze.rest(1, 1));
            refused(maze, 9, 15, "bond", () -> maze.bond(0, 1, 1));
        });
    }

    private static void minotaurAndMaze() {
        term("10, the visitor meets the minotaur: his cell", () -> {
            MazeBonds maze = people(9, 9);
            maze.minotaur(0);
            refused(maze, 10, 0, "bond in the entrance", () -> maze.bond(0, 0, 1));
            maze.minotaur(14);
            walkAll(maze, 0, SOUTH, SOUTH, SOUTH, EAST, EAST);
            refused(maze, 10, 14, "bond ahead of the exit", () -> maze.bond(0, 0, 1));
            maze.minotaur(15);
            due("bond beside him", maze.bond(0, 0, 1), 7);
        });
        term("11, the maze ends there: the cell", () -> {
            MazeBonds maze = withVisitors(1);
            refused(maze, 11, 0, "north of the first cell", () -> maze.walk(0, NORTH));
            refused(maze, 11, 0, "west of the first cell", () -> maze.walk(0, WEST));
            walkAll(maze, 0, EAST, EAST, EAST);
            refused(maze, 11, 3, "north of a corner", () -> maze.walk(0, NORTH));
            refused(maze, 11, 3, "east of a corner", () -> maze.walk(0, EAST));
            walkAll(maze, 0, SOUTH, WEST, WEST, WEST);
            refused(maze, 11, 4, "west of a row's first cell", () -> maze.walk(0, WEST));
            walkAll(maze, 0, SOUTH, SOUTH);
            refused(maze, 11, 12, "south of a corner", () -> maze.walk(0, SOUTH));
            refused(maze, 11, 12, "west of a corner", () -> maze.walk(0, WEST));
        });
        term("12, there is a hedge: its leaves", () -> {
            MazeBonds maze = withVisitors(1);
            for (int leaves = 5; leaves <= 9; leaves++) {
                maze.hedge(0, 1, leaves);
                refused(maze, 12, leaves, "walk", () -> maze.walk(0, EAST));
            }
            visitorDue(maze, 0, 1, 0);
            maze.hedge(0, 1, 4);
            due("4 leaves are no hedge in the way", maze.walk(0, EAST), 1);
        });
    }

    private static void fullAndDetail() {
        term("13, there are as many as there can be: this number.", () -> {
            MazeBonds maze = new MazeBonds();
            for (int number = 0; number < 4; number++) {
                due("gardener", maze.gardener(0), number);
            }
            refused(maze, 13, 4, "gardener", () -> maze.gardener(0));
            for (int number = 0; number < 5; number++) {
                due("visitor", maze.visitor(0), number);
            }
            refused(maze, 13, 5, "visitor", () -> maze.visitor(0));
        });
        term("If nothing else is told, the detail is 0.", () -> {
            MazeBonds maze = new MazeBonds();
            Expect.fails("a reason with a detail", UnsupportedOperationException.class, () -> maze.hedge(3, 4, 1));
            due("the detail", maze.reason(1), 4);
            refused(maze, 1, 0, "a number out of range", () -> maze.hedge(3, 16, 1));
            maze.gardener(9);
            refused(maze, 3, 0, "a hedge without leaves", () -> maze.trim(0, 4, 5));
        });
    }

    private static void kept() {
        term("The reason is kept with the index of the command of a text, from 0, or 0 for another call.", () -> {
            MazeBonds maze = new MazeBonds();
            Expect.append(maze, "h3-4=1;s");
            Expect.refusedAt(maze, 0, 2, 4, "the first command", () -> maze.commands());
            Expect.append(maze, "s;".repeat(18) + "g9;g9;g9;g9;g9");
            Expect.refusedAt(maze, 22, 13, 4, "the last command", () -> maze.commands());
            Expect.append(maze, "s;".repeat(28) + "w0n");
            Expect.refusedAt(maze, 28, 7, 0, "the last command that finds place", () -> maze.commands());
            refused(maze, 3, 0, "another call", () -> maze.hedge(0, 1, 0));
        });
    }
}
