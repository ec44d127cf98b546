/** All that can be seen of a maze, to compare two mazes, or one before and after a call. */
final class Whole {
    private Whole() {
    }

    /** What can be undone: the accounts, the people, the hedges and the minotaur. It writes over the line. */
    static String seen(MazeBonds maze) {
        StringBuilder all = new StringBuilder("accounts");
        for (int what = 0; what <= 9; what++) {
            all.append(' ').append(maze.account(what));
        }
        for (int gardener = 0; gardener < maze.account(0); gardener++) {
            all.append(", gardener");
            for (int what = 0; what <= 4; what++) {
                all.append(' ').append(maze.gardenerOf(gardener, what));
            }
        }
        for (int visitor = 0; visitor < maze.account(1); visitor++) {
            all.append(", visitor");
            for (int what = 0; what <= 8; what++) {
                all.append(' ').append(maze.visitorOf(visitor, what));
            }
        }
        appendMaze(maze, all);
        return all.toString();
    }

    private static void appendMaze(MazeBonds maze, StringBuilder all) {
        all.append(", leaves ");
        for (int cell = 0; cell < 16; cell++) {
            all.append(cell % 4 < 3 ? maze.leaves(cell, cell + 1) : 0);
            all.append(cell < 12 ? maze.leaves(cell, cell + 4) : 0);
        }
        all.append(", cells ");
        for (int row = 0; row < 4; row++) {
            maze.row(row);
            for (int cell = 0; cell < 4; cell++) {
                all.append(maze.character(2 * cell));
            }
        }
    }

    /** What can't be undone, but for the reason: the changes, the buffer's length, the fault and the line. */
    static String beside(MazeBonds maze) {
        return "changes " + maze.account(10) + ", " + maze.account(11) + " characters, fault " + maze.faultPosition()
            + ", line " + line(maze);
    }

    static String reason(MazeBonds maze) {
        boolean isKept = Expect.outcome(() -> maze.reason(0)).equals("nothing");
        return isKept ? maze.reason(0) + " " + maze.reason(1) + " " + maze.reason(2) : "none";
    }

    static String line(MazeBonds maze) {
        StringBuilder line = new StringBuilder();
        while (hasCharacter(maze, line.length())) {
            line.append(maze.character(line.length()));
        }
        return line.toString();
    }

    private static boolean hasCharacter(MazeBonds maze, int index) {
        return Expect.outcome(() -> maze.character(index)).equals("nothing");
    }
}
