/** The boundaries that the promises 1 to 10 name: the new object and the changes. */
final class ChangeBoundaries extends Boundary {
    private static final String KEPT = "the reason is kept";

    private ChangeBoundaries() {
    }

    static void all() {
        newObject();
        hedge();
        summer();
        trim();
        trimRefused();
        minotaur();
        gardener();
        visitor();
        visitorRefused();
        bond();
        bondRefused();
        walk();
        walkRefused();
        rest();
    }

    private static void newObject() {
        promise(1, "Creates a maze without leaves, gardeners and visitors.", () -> {
            MazeBonds maze = new MazeBonds();
            for (int one = 0; one < 16; one++) {
                for (int other = 0; other < 16; other++) {
                    if (areNeighbours(one, other)) {
                        due("leaves", maze.leaves(one, other), 0);
                    }
                }
            }
            for (int what = 0; what <= 11; what++) {
                accountDue(maze, what, what == 5 ? 24 : 0);
            }
            Expect.outOfBounds("no gardener", () -> maze.gardenerOf(0, 0));
            Expect.outOfBounds("no visitor", () -> maze.visitorOf(0, 0));
        });
    }

    private static void hedge() {
        promise(2, "Returns the leaves before.", () -> {
            MazeBonds maze = new MazeBonds();
            due("from 0 to 9", maze.hedge(11, 15, 9), 0);
            due("from 9 to 1", maze.hedge(15, 11, 1), 9);
            due("from 1 to 0", maze.hedge(11, 15, 0), 1);
            maze.summer();
            due("after a summer", maze.hedge(11, 15, 0), 1);
        });
        promise(2, "Throws UnsupportedOperationException if it is refused for the reason 1, 2 or 3", () -> {
            MazeBonds maze = new MazeBonds();
            refused(maze, 1, 0, "the cell 16", () -> maze.hedge(16, 15, 1));
            refused(maze, 1, 0, "the other cell 16", () -> maze.hedge(15, 16, 1));
            refused(maze, 1, 0, "the cell -1", () -> maze.hedge(-1, 0, 1));
            refused(maze, 1, 0, "the other cell -1", () -> maze.hedge(0, -1, 1));
            refused(maze, 1, 0, "10 leaves", () -> maze.hedge(0, 1, 10));
            refused(maze, 1, 0, "-1 leaves", () -> maze.hedge(0, 1, -1));
            refused(maze, 2, 8, "no neighbours", () -> maze.hedge(7, 8, 1));
            refused(maze, 3, 0, "so already", () -> maze.hedge(14, 15, 0));
        });
        promise(2, KEPT, () -> {
            MazeBonds maze = new MazeBonds();
            refused(maze, 2, 12, "no neighbours", () -> maze.hedge(11, 12, 1));
            maze.hedge(0, 1, 5);
            due("after a call that is not refused", maze.reason(1), 12);
            refused(maze, 3, 5, "in place of the reason before", () -> maze.hedge(0, 1, 5));
        });
    }

    private static void summer() {
        promise(3, "Returns how many gaps close.", () -> {
            MazeBonds maze = new MazeBonds();
            due("no gap closes", maze.summer(), 0);
            maze.hedge(0, 1, 4);
            maze.hedge(11, 15, 4);
            maze.hedge(1, 2, 5);
            maze.hedge(2, 3, 3);
            due("those with 4 leaves close", maze.summer(), 2);
            due("the one with 3 leaves is next", maze.summer(), 1);
            due("the others have 3 leaves", maze.summer(), 0);
            due("all others close at once", maze.summer(), 20);
            due("none is left", maze.summer(), 0);
            accountDue(maze, 5, 0);
        });
        promise(3, "Lets a summer go by.", () -> {
            MazeBonds maze = new MazeBonds();
            summers(maze, 9);
            accountDue(maze, 6, 9);
            due("a summer when all have 9 leaves", maze.summer(), 0);
            accountDue(maze, 6, 10);
            accountDue(maze, 10, 8);
        });
    }

    private static void trim() {
        promise(4, "Returns the coins that the gardener has then.", () -> {
            MazeBonds maze = people(0, 9);
            maze.gardener(4);
            maze.hedge(0, 1, 9);
            maze.hedge(0, 4, 1);
            due("of 4 coins", maze.trim(1, 0, 1), 2);
            due("of 2 coins", maze.trim(1, 4, 0), 0);
            gardenerDue(maze, 0, 0, 0);
            gardenerDue(maze, 1, 4, 2);
        });
        promise(4, "Lets a gardener trim a hedge.", () -> {
            MazeBonds maze = people(99, 9);
            for (int leaves = 1; leaves <= 9; leaves++) {
                maze.hedge(5, 9, leaves);
                maze.trim(0, 9, 5);
                due("trimmed with " + leaves + " leaves, gap or not", maze.leaves(5, 9), 0);
            }
            gardenerDue(maze, 0, 4, 9);
            gardenerDue(maze, 0, 0, 81);
        });
    }

    private static void trimRefused() {
        promise(4, "Throws UnsupportedOperationException if it is refused for the reason 4, 1, 2, 3, if it has no "
            + "leaves, or 5", () -> {
            MazeBonds maze = people(1, 9);
            refused(maze, 4, 1, "the gardener 1", () -> maze.trim(1, 0, 1));
            refused(maze, 4, 1, "the gardener -1", () -> maze.trim(-1, 16, 1));
            refused(maze, 1, 0, "the cell 16", () -> maze.trim(0, 16, 15));
            refused(maze, 1, 0, "the other cell -1", () -> maze.trim(0, 0, -1));
            refused(maze, 2, 4, "no neighbours", () -> maze.trim(0, 3, 4));
            refused(maze, 3, 0, "no leaves", () -> maze.trim(0, 0, 1));
            maze.hedge(0, 1, 1);
            refused(maze, 5, 1, "1 coin", () -> maze.trim(0, 0, 1));
        });
        promise(4, KEPT, () -> {
            MazeBonds maze = people(2, 9);
            refused(maze, 2, 5, "no neighbours", () -> maze.trim(0, 0, 5));
            maze.hedge(0, 1, 1);
            maze.trim(0, 0, 1);
            due("after a trim", maze.reason(0), 2);
            refused(maze, 3, 0, "in place of the reason before", () -> maze.trim(0, 0, 1));
        });
    }

    private static void minotaur() {
        promise(5, "cell: the cell, -1 for none", () -> {
            MazeBonds maze = new MazeBonds();
            due("into the cell 15", maze.minotaur(15), 0);
            due("into the cell 0", maze.minotaur(0), 0);
            due("away", maze.minotaur(-1), 0);
            due("the row", rowOf(maze, 0), "0 0 0 0");
        });
        promise(5, "Returns how many visitors in the maze meet him then.", () -> {
            MazeBonds maze = withVisitors(5);
            due("all", maze.minotaur(0), 5);
            walkOut(maze, 0);
            maze.walk(1, EAST);
            due("one", maze.minotaur(1), 1);
            due("who is out does not", maze.minotaur(15), 0);
            due("the others", maze.minotaur(0), 3);
            due("none, when he goes", maze.minotaur(-1), 0);
        });
        promise(5, "Throws UnsupportedOperationException if it is refused for the reason 1 or 3", () -> {
            MazeBonds maze = new MazeBonds();
            refused(maze, 1, 0, "the cell -2", () -> maze.minotaur(-2));
            refused(maze, 1, 0, "the cell 16", () -> maze.minotaur(16));
            refused(maze, 3, -1, "in none already", () -> maze.minotaur(-1));
            maze.minotaur(15);
            refused(maze, 3, 15, "in the cell already", () -> maze.minotaur(15));
        });
        promise(5, KEPT, () -> {
            MazeBonds maze = new MazeBonds();
            refused(maze, 3, -1, "in none already", () -> maze.minotaur(-1));
            maze.minotaur(0);
            due("after the minotaur came", maze.reason(1), -1);
        });
    }

    private static void gardener() {
        promise(6, "coins: the coins of this one, 0 to 99", () -> {
            MazeBonds maze = new MazeBonds();
            maze.gardener(0);
            maze.gardener(99);
            gardenerDue(maze, 0, 0, 0);
            gardenerDue(maze, 1, 0, 99);
            accountDue(maze, 7, 99);
        });
        promise(6, "Returns the number of the gardener.", () -> {
            MazeBonds maze = new MazeBonds();
            due("the first", maze.gardener(1), 0);
            due("the second", maze.gardener(1), 1);
            maze.undo();
            due("the second again", maze.gardener(1), 1);
            due("the third", maze.gardener(1), 2);
            due("the last", maze.gardener(1), 3);
        });
        promise(6, "Throws UnsupportedOperationException if it is refused for the reason 1 or 13", () -> {
            MazeBonds maze = new MazeBonds();
            refused(maze, 1, 0, "-1 coins", () -> maze.gardener(-1));
            refused(maze, 1, 0, "100 coins", () -> maze.gardener(100));
            for (int number = 0; number < 4; number++) {
                maze.gardener(99);
            }
            refused(maze, 13, 4, "a fifth", () -> maze.gardener(99));
            refused(maze, 1, 0, "a fifth with 100 coins", () -> maze.gardener(100));
        });
        promise(6, KEPT, () -> {
            MazeBonds maze = new MazeBonds();
            refused(maze, 1, 0, "100 coins", () -> maze.gardener(100));
            maze.gardener(99);
            due("after one came", maze.reason(0), 1);
        });
    }

    private static void visitor() {
        promise(7, "coins: the coins of this one, 0 to 99", () -> {
            MazeBonds maze = new MazeBonds();
            maze.visitor(0);
            maze.visitor(99);
            visitorDue(maze, 0, 0, 0);
            visitorDue(maze, 1, 0, 99);
            accountDue(maze, 7, 99);
        });
        promise(7, "Returns the number of the visitor.", () -> {
            MazeBonds maze = new MazeBonds();
            due("the first", maze.visitor(1), 0);
            walkOut(maze, 0);
            due("the second, when the first is out", maze.visitor(1), 1);
            maze.undo();
            due("the second again", maze.visitor(1), 1);
            maze.visitor(1);
            maze.visitor(1);
            due("the last", maze.visitor(1), 4);
        });
        promise(7, "Lets a visitor come in at the entrance.", () -> {
            MazeBonds maze = new MazeBonds();
            maze.minotaur(0);
            maze.visitor(9);
            int[] numbers = {9, 0, 0, 6, 0, NONE, 0, 0, 0};
            for (int what = 0; what < numbers.length; what++) {
                visitorDue(maze, 0, what, numbers[what]);
            }
        });
    }

    private static void visitorRefused() {
        promise(7, "Throws UnsupportedOperationException if it is refused for the reason 1, 13 or 6", () -> {
            MazeBonds maze = new MazeBonds();
            refused(maze, 1, 0, "-1 coins", () -> maze.visitor(-1));
            refused(maze, 1, 0, "100 coins", () -> maze.visitor(100));
            maze.hedge(11, 15, 5);
            maze.hedge(14, 15, 4);
            due("by the last gap", maze.visitor(0), 0);
            maze.hedge(14, 15, 5);
            refused(maze, 6, 15, "without a way", () -> maze.visitor(0));
            refused(maze, 1, 0, "without a way, with 100 coins", () -> maze.visitor(100));
            maze.hedge(14, 15, 0);
            for (int number = 1; number < 5; number++) {
                maze.visitor(99);
            }
            refused(maze, 13, 5, "a sixth", () -> maze.visitor(99));
            maze.hedge(14, 15, 9);
            refused(maze, 13, 5, "a sixth without a way", () -> maze.visitor(99));
            refused(maze, 1, 0, "a sixth with 100 coins", () -> maze.visitor(100));
        });
        promise(7, KEPT, () -> {
            MazeBonds maze = closed();
            refused(maze, 6, 1, "without a way", () -> maze.visitor(0));
            maze.gardener(1);
            due("after a gardener came", maze.reason(0), 6);
        });
    }

    private static void bond() {
        promise(8, "rate: its rate", () -> {
            MazeBonds maze = people(9, 99);
            maze.visitor(99);
            for (int rate : new int[] {Integer.MIN_VALUE, -1, 0, 6, Integer.MAX_VALUE}) {
                refused(maze, 1, 0, "the rate " + rate, () -> maze.bond(0, 0, rate));
            }
            maze.bond(0, 0, 1);
            maze.bond(0, 1, 5);
            visitorDue(maze, 0, 6, 1);
            visitorDue(maze, 1, 6, 5);
        });
        promise(8, "Returns the coins that the visitor has then.", () -> {
            MazeBonds maze = people(9, 2);
            maze.visitor(99);
            due("of 2 coins", maze.bond(0, 0, 1), 0);
            due("of 99 coins", maze.bond(0, 1, 5), 89);
            visitorDue(maze, 0, 0, 0);
            visitorDue(maze, 1, 0, 89);
        });
    }

    private static void bondRefused() {
        promise(8, "Throws UnsupportedOperationException if it is refused for the reason 4, 7, 1, 9, 8, 10 or 5", () -> {
            MazeBonds maze = people(0, 1);
            refused(maze, 4, 1, "the gardener 1, the visitor 1", () -> maze.bond(1, 1, 1));
            refused(maze, 4, 1, "the gardener -1", () -> maze.bond(-1, 0, 1));
            refused(maze, 7, 1, "the visitor 1, the rate 0", () -> maze.bond(0, 1, 0));
            refused(maze, 7, 1, "the visitor -1", () -> maze.bond(0, -1, 1));
            refused(maze, 5, 1, "1 coin", () -> maze.bond(0, 0, 1));
            maze.minotaur(0);
            refused(maze, 10, 0, "the minotaur, 1 coin", () -> maze.bond(0, 0, 1));
            refused(maze, 1, 0, "the rate 6, the minotaur", () -> maze.bond(0, 0, 6));
            maze.visitor(11);
            maze.minotaur(NONE);
            maze.bond(0, 1, 5);
            refused(maze, 8, 0, "a bond, 1 coin", () -> maze.bond(0, 1, 1));
            refused(maze, 1, 0, "a bond, the rate 0", () -> maze.bond(0, 1, 0));
            maze.minotaur(0);
            refused(maze, 8, 0, "a bond, the minotaur", () -> maze.bond(0, 1, 1));
            walkOut(maze, 1);
            refused(maze, 9, 6, "out, 1 coin", () -> maze.bond(0, 1, 1));
            refused(maze, 1, 0, "out, the rate 6", () -> maze.bond(0, 1, 6));
        });
        promise(8, KEPT, () -> {
            MazeBonds maze = people(0, 3);
            refused(maze, 5, 1, "3 coins", () -> maze.bond(0, 0, 2));
            maze.bond(0, 0, 1);
            due("after a bond", maze.reason(0), 5);
            refused(maze, 8, 0, "in place of the reason before", () -> maze.bond(0, 0, 1));
        });
    }

    private static void walk() {
        promise(9, "direction: 0 to the row above, 1 to greater numbers in the row, 2 to the row below, 3 to lesser "
            + "numbers", () -> {
            MazeBonds maze = withVisitors(1);
            due("to the row below", maze.walk(0, 2), 4);
            due("to greater numbers", maze.walk(0, 1), 5);
            due("to the row above", maze.walk(0, 0), 1);
            due("to lesser numbers", maze.walk(0, 3), 0);
            for (int direction : new int[] {Integer.MIN_VALUE, -1, 4, Integer.MAX_VALUE}) {
                refused(maze, 1, 0, "the direction " + direction, () -> maze.walk(0, direction));
            }
        });
        promise(9, "Returns the cell where the visitor is then.", () -> {
            MazeBonds maze = withVisitors(2);
            int[] cells = {1, 2, 3, 7, 11};
            int[] directions = {EAST, EAST, EAST, SOUTH, SOUTH};
            for (int step = 0; step < cells.length; step++) {
                due("a step", maze.walk(0, directions[step]), cells[step]);
                visitorDue(maze, 0, 1, cells[step]);
            }
            due("the exit", maze.walk(0, SOUTH), 15);
            visitorDue(maze, 1, 1, 0);
        });
    }

    private static void walkRefused() {
        promise(9, "Throws UnsupportedOperationException if it is refused for the reason 7, 1, 9, 11 or 12", () -> {
            MazeBonds maze = withVisitors(1);
            refused(maze, 7, 1, "the visitor 1, the direction 4", () -> maze.walk(1, 4));
            refused(maze, 7, 1, "the visitor -1", () -> maze.walk(-1, EAST));
            refused(maze, 1, 0, "the direction 4", () -> maze.walk(0, 4));
            refused(maze, 1, 0, "the direction -1", () -> maze.walk(0, -1));
            refused(maze, 11, 0, "the maze ends", () -> maze.walk(0, NORTH));
            maze.hedge(0, 1, 5);
            refused(maze, 12, 5, "a hedge", () -> maze.walk(0, EAST));
            walkAll(maze, 0, SOUTH, SOUTH, SOUTH, EAST, EAST, EAST);
            refused(maze, 9, 6, "out", () -> maze.walk(0, NORTH));
            refused(maze, 9, 6, "out, the maze ends", () -> maze.walk(0, SOUTH));
            refused(maze, 1, 0, "out, the direction 4", () -> maze.walk(0, 4));
        });
        promise(9, KEPT, () -> {
            MazeBonds maze = withVisitors(1);
            refused(maze, 11, 0, "the maze ends", () -> maze.walk(0, WEST));
            maze.walk(0, EAST);
            due("after a walk", maze.reason(0), 11);
            refused(maze, 11, 1, "in place of the reason before", () -> maze.walk(0, NORTH));
        });
    }

    private static void rest() {
        promise(10, "hours: how many hours, 1 to 9", () -> {
            MazeBonds maze = withVisitors(1);
            maze.rest(0, 1);
            visitorDue(maze, 0, 2, 1);
            maze.rest(0, 9);
            visitorDue(maze, 0, 2, 10);
            for (int hours : new int[] {Integer.MIN_VALUE, -1, 0, 10, Integer.MAX_VALUE}) {
                refused(maze, 1, 0, hours + " hours", () -> maze.rest(0, hours));
            }
        });
        promise(10, "Returns the hours spent then.", () -> {
            MazeBonds maze = withVisitors(2);
            due("at first", maze.rest(0, 1), 1);
            maze.walk(0, EAST);
            due("after a walk", maze.rest(0, 9), 11);
            due("of another one", maze.rest(1, 2), 2);
        });
        promise(10, "Throws UnsupportedOperationException if it is refused for the reason 7, 1 or 9", () -> {
            MazeBonds maze = withVisitors(1);
            refused(maze, 7, 1, "the visitor 1, 0 hours", () -> maze.rest(1, 0));
            refused(maze, 7, 1, "the visitor -1", () -> maze.rest(-1, 1));
            refused(maze, 1, 0, "0 hours", () -> maze.rest(0, 0));
            refused(maze, 1, 0, "10 hours", () -> maze.rest(0, 10));
            walkOut(maze, 0);
            refused(maze, 9, 6, "out", () -> maze.rest(0, 9));
            refused(maze, 1, 0, "out, 10 hours", () -> maze.rest(0, 10));
        });
        promise(10, KEPT, () -> {
            MazeBonds maze = withVisitors(1);
            refused(maze, 7, 1, "the visitor 1", () -> maze.rest(1, 1));
            maze.rest(0, 1);
            due("after a rest", maze.reason(1), 1);
        });
    }
}
