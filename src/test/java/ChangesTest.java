/** Accounts, undo and the snapshot: promises 37 to 40. */
public final class ChangesTest {
    public static void main(String[] args) {
        promise37Account();
        promise38UndoEachChange();
        promise38UndoOfEight();
        promise38WhatIsNoChange();
        promise39Save();
        promise40Restore();
        promise40RestoreOfWhoWasUndone();
        Expect.end();
    }

    private static void accountsDue(MazeBonds maze, String when, int... accounts) {
        for (int what = 0; what < accounts.length; what++) {
            Expect.due("account " + what + " " + when, maze.account(what), accounts[what]);
        }
    }

    private static void promise37Account() {
        MazeBonds maze = new MazeBonds();
        accountsDue(maze, "at first", 0, 0, 0, 0, 0, 24, 0, 0, 0, 0, 0, 0);
        maze.gardener(40);
        maze.gardener(3);
        maze.visitor(10);
        maze.visitor(20);
        maze.visitor(0);
        accountsDue(maze, "with people", 2, 3, 0, 0, 0, 24, 0, 73, 0, 73, 5, 0);
        maze.bond(0, 0, 2);
        maze.bond(1, 1, 3);
        maze.walk(1, 1);
        maze.minotaur(0);
        accountsDue(maze, "with bonds", 2, 3, 0, 2, 1, 24, 0, 73, 0, 73, 8, 0);
        maze.hedge(8, 12, 4);
        maze.hedge(9, 13, 8);
        maze.summer();
        maze.trim(0, 12, 8);
        maze.append('s');
        maze.append(';');
        accountsDue(maze, "after a summer", 2, 3, 0, 2, 1, 23, 1, 73, 2, 71, 8, 2);
        for (int direction : new int[] {1, 1, 2, 2, 2}) {
            maze.walk(1, direction);
        }
        accountsDue(maze, "with one out", 2, 3, 1, 1, 1, 23, 1, 73, 2, 71, 8, 2);
        Expect.wrongArgument("account(-1)", () -> maze.account(-1));
        Expect.wrongArgument("account(12)", () -> maze.account(12));
    }

    private interface Step {
        void take(MazeBonds maze);
    }

    /** A visitor with a bond and hours to lose, a cell ahead of the exit. */
    private static MazeBonds aheadOfTheExit() {
        MazeBonds maze = new MazeBonds();
        maze.gardener(30);
        maze.visitor(30);
        maze.bond(0, 0, 3);
        maze.hedge(0, 1, 3);
        maze.visitor(9);
        maze.rest(0, 9);
        for (int direction : new int[] {1, 1, 1, 2, 2}) {
            maze.walk(0, direction);
        }
        return maze;
    }

    private static void promise38UndoEachChange() {
        MazeBonds paid = aheadOfTheExit();
        paid.walk(0, 2);
        Expect.due("the bond paid", paid.gardenerOf(0, 3), 27);
        MazeBonds met = aheadOfTheExit();
        met.minotaur(11);
        Expect.due("the bond is void", met.visitorOf(0, 7), 1);
        undoDue("a walk into the exit", maze -> maze.walk(0, 2));
        undoDue("the minotaur", maze -> maze.minotaur(11));
        undoDue("a hedge", maze -> maze.hedge(0, 1, 4));
        undoDue("a summer", maze -> maze.summer());
        undoDue("a gardener", maze -> maze.gardener(5));
        undoDue("a visitor", maze -> maze.visitor(5));
        undoDue("a rest", maze -> maze.rest(0, 2));
        undoDue("commands", maze -> Expect.commands(maze, "h14-15=6;t0:14-15;g9;v9;b1>1*4;m3"));
        undoDue("a trim", maze -> maze.trim(0, 0, 1));
        undoDue("a bond", maze -> maze.bond(0, 1, 1));
        Expect.wrongState("nothing to undo", () -> new MazeBonds().undo());
    }

    private static void undoDue(String what, Step change) {
        MazeBonds maze = aheadOfTheExit();
        String before = Whole.seen(maze);
        change.take(maze);
        Expect.due(what + " changes something", Whole.seen(maze).equals(before), false);
        Expect.due("undo of " + what, maze.undo(), 7);
        Expect.due("all as before " + what, Whole.seen(maze), before);
    }

    private static void promise38UndoOfEight() {
        MazeBonds maze = new MazeBonds();
        for (int leaves = 1; leaves <= 9; leaves++) {
            maze.hedge(0, 1, leaves);
            Expect.due("changes that can be undone", maze.account(10), Math.min(8, leaves));
        }
        maze.hedge(0, 1, 0);
        for (int left = 7; left >= 0; left--) {
            Expect.due("undo", maze.undo(), left);
            Expect.due("the leaves then", maze.leaves(0, 1), left + 2);
        }
        Expect.wrongState("the latest 8 alone", () -> maze.undo());
        Expect.due("an undo that fails changes nothing", maze.leaves(0, 1), 2);
        maze.hedge(0, 1, 7);
        maze.hedge(0, 1, 8);
        Expect.due("undo after new changes", maze.undo(), 1);
        maze.hedge(0, 1, 9);
        Expect.due("undo", maze.undo(), 1);
        Expect.due("undo", maze.undo(), 0);
        Expect.due("the leaves then", maze.leaves(0, 1), 2);
    }

    private static void promise38WhatIsNoChange() {
        MazeBonds maze = new MazeBonds();
        maze.gardener(1);
        maze.visitor(1);
        Expect.append(maze, "s");
        Expect.refused(maze, 3, 0, "a refused call", () -> maze.hedge(0, 1, 0));
        maze.line(0);
        maze.row(0);
        maze.save();
        maze.hours(0, 15);
        maze.summersLeft();
        Expect.due("none of these is a change", maze.account(10), 2);
        Expect.due("undo", maze.undo(), 1);
        Expect.due("the buffer stays", maze.account(11), 1);
        Expect.due("the reason stays", maze.reason(0), 3);
        Expect.due("the line stays", Expect.written(maze, 7), "1 0 0 0");
        Expect.outOfBounds("the visitor is gone", () -> maze.line(0));
    }

    private static void promise39Save() {
        MazeBonds maze = new MazeBonds();
        Expect.due("save without visitors", maze.save(), 0);
        maze.visitor(3);
        maze.visitor(4);
        Expect.due("save in place of the earlier", maze.save(), 2);
        maze.visitor(5);
        maze.undo();
        maze.undo();
        Expect.due("undo leaves the snapshot", maze.restore(), 2);
        Expect.due("save after restore", maze.save(), 2);
        Expect.due("coins", maze.visitorOf(1, 0), 4);
    }

    private static void promise40Restore() {
        MazeBonds maze = new MazeBonds();
        Expect.wrongState("no snapshot", () -> maze.restore());
        maze.gardener(30);
        maze.visitor(30);
        maze.bond(0, 0, 3);
        maze.hedge(1, 2, 4);
        maze.minotaur(6);
        maze.rest(0, 8);
        String before = Whole.seen(maze);
        maze.save();
        Expect.due("save keeps the changes", maze.account(10), 6);
        Expect.commands(maze, "s;t0:1-2;g5;v5;w0e;m1;b1>1*2");
        Expect.refused(maze, 7, 2, "a refused call", () -> maze.walk(2, 0));
        Expect.append(maze, "ss");
        maze.row(0);
        Expect.due("restore answers the visitors", maze.restore(), 1);
        Expect.due("the line stays", Expect.written(maze, 7), "1 M 0 0");
        Expect.due("all as saved", Whole.seen(maze), before);
        Expect.due("restore forgets the changes", maze.account(10), 0);
        Expect.wrongState("nothing to undo", () -> maze.undo());
        Expect.due("the buffer stays", maze.account(11), 2);
        Expect.due("the reason stays", maze.reason(1), 2);
        maze.summer();
        Expect.due("the snapshot is kept", maze.restore(), 1);
        Expect.due("all as saved again", Whole.seen(maze), before);
    }

    /** Others come in the places of those who were undone, and go with the snapshot. */
    private static void promise40RestoreOfWhoWasUndone() {
        MazeBonds maze = new MazeBonds();
        maze.gardener(7);
        maze.visitor(8);
        String saved = Whole.seen(maze);
        maze.save();
        maze.undo();
        maze.undo();
        maze.hedge(0, 1, 5);
        maze.hedge(4, 8, 5);
        maze.hedge(5, 9, 5);
        maze.hedge(6, 10, 5);
        maze.hedge(6, 7, 5);
        maze.hedge(1, 2, 4);
        maze.gardener(50);
        Expect.commands(maze, "v60;b0>0*1;w0s;r0+9;t0:0-1;m4");
        Expect.due("a longer way for who came instead", maze.visitorOf(0, 3), 8);
        Expect.due("restore", maze.restore(), 1);
        Expect.due("those who were saved", Whole.seen(maze), saved);
    }
}
