/** The boundaries that the terms name of changes, and the promises 36 to 40. */
final class StateBoundaries extends Boundary {
    private interface Step {
        void take(MazeBonds maze);
    }

    private StateBoundaries() {
    }

    static void all() {
        whatCanBeUndone();
        whatCannotBeUndone();
        latestEight();
        restoreForgets();
        whatStays();
        gapShare();
        account();
        accountsOfPeople();
        accountsOfCoins();
        undo();
        save();
        restore();
    }

    /** Changes a maze with more than 8 changes behind it, and takes that back. */
    private static void undoDue(String what, Step change) {
        MazeBonds maze = FailureBoundaries.busy();
        // A change ahead of it, lest what was kept for that one should serve for this one.
        maze.hedge(8, 9, 2);
        String before = Whole.seen(maze);
        change.take(maze);
        due(what + " changes something", Whole.seen(maze).equals(before), false);
        due(what + " can be undone", maze.undo(), 7);
        due(what + " is undone", Whole.seen(maze), before);
    }

    private static void whatCanBeUndone() {
        term("What can be undone are the successful calls of hedge, summer, trim, minotaur, gardener, visitor, bond, walk, "
            + "rest and commands.", () -> {
            undoDue("hedge", maze -> maze.hedge(0, 1, 5));
            undoDue("summer", maze -> maze.summer());
            undoDue("trim", maze -> maze.trim(0, 0, 1));
            undoDue("minotaur", maze -> maze.minotaur(NONE));
            undoDue("gardener", maze -> maze.gardener(0));
            undoDue("visitor", maze -> maze.visitor(0));
            undoDue("walk", maze -> maze.walk(0, SOUTH));
            undoDue("rest", maze -> maze.rest(0, 1));
            undoDue("commands", maze -> Expect.commands(maze, "5;g9;v0;w0s"));
            MazeBonds maze = people(20, 20);
            String before = Whole.seen(maze);
            maze.bond(0, 0, 5);
            due("bond can be undone", maze.undo(), 2);
            due("bond is undone", Whole.seen(maze), before);
        });
        promise(38, "Undoes the latest call that can be undone.", () -> {
            MazeBonds maze = bonded(50, 20, 3);
            maze.rest(0, 9);
            walkAll(maze, 0, SOUTH, SOUTH, SOUTH, EAST, EAST);
            String before = Whole.seen(maze);
            maze.walk(0, EAST);
            gardenerDue(maze, 0, 3, 27);
            maze.undo();
            due("the walk into the exit and what the bond paid", Whole.seen(maze), before);
            due("the exit again", maze.walk(0, EAST), 15);
            gardenerDue(maze, 0, 3, 27);
        });
        promise(38, "Undoes the latest call that can be undone.", () -> {
            MazeBonds maze = new MazeBonds();
            summers(maze, 10);
            due("a summer that grows nothing is a call as well", maze.undo(), 7);
            accountDue(maze, 6, 9);
            due("the leaves", maze.leaves(0, 1), 9);
            maze.undo();
            due("the leaves", maze.leaves(0, 1), 8);
        });
    }

    private static void whatCannotBeUndone() {
        term("What can be undone are the successful calls of", () -> {
            Step[] others = {maze -> maze.leaves(0, 1), maze -> maze.isGap(0, 1), maze -> maze.hours(0, 15),
                maze -> maze.hoursAgain(0, 15), maze -> maze.next(0), maze -> maze.reached(0), maze -> maze.trims(0),
                maze -> maze.trimsAgain(0), maze -> maze.isNeeded(0, 1), maze -> maze.closesIn(0, 1),
                maze -> maze.summersLeft(), maze -> maze.gardenerOf(0, 0), maze -> maze.visitorOf(0, 0),
                maze -> maze.wouldPay(0), maze -> maze.owed(0), maze -> maze.ranked(0, 0), maze -> maze.richest(0),
                maze -> maze.append('s'), maze -> maze.faultPosition(), maze -> maze.line(0), maze -> maze.row(0),
                maze -> maze.character(0), maze -> maze.meanLost(), maze -> maze.gapShare(), maze -> maze.account(10),
                maze -> maze.save()};
            MazeBonds maze = bonded(20, 20, 1);
            for (Step other : others) {
                other.take(maze);
                accountDue(maze, 10, 3);
            }
            Expect.fails("refused", UnsupportedOperationException.class, () -> maze.hedge(0, 1, 0));
            Expect.append(maze, ";w0n");
            Expect.fails("refused commands", UnsupportedOperationException.class, () -> maze.commands());
            Expect.fails("a fault", IllegalArgumentException.class, () -> maze.commands());
            accountDue(maze, 10, 3);
            due("undo takes back the bond", maze.undo(), 2);
            visitorDue(maze, 0, 5, NONE);
        });
    }

    private static void latestEight() {
        term("What there was before each of the latest 8 is kept", () -> {
            MazeBonds maze = new MazeBonds();
            for (int leaves = 1; leaves <= 9; leaves++) {
                maze.hedge(0, 1, leaves);
                accountDue(maze, 10, Math.min(8, leaves));
            }
            for (int left = 7; left >= 0; left--) {
                due("undo", maze.undo(), left);
                due("the leaves", maze.leaves(0, 1), left + 1);
            }
            Expect.wrongState("the ninth", () -> maze.undo());
            due("the first stays", maze.leaves(0, 1), 1);
            MazeBonds exact = new MazeBonds();
            summers(exact, 8);
            for (int left = 7; left >= 0; left--) {
                due("undo", exact.undo(), left);
            }
            accountDue(exact, 6, 0);
            Expect.wrongState("none is left", () -> exact.undo());
        });
        term("What there was before each of the latest 8 is kept", () -> {
            MazeBonds maze = new MazeBonds();
            summers(maze, 30);
            for (int round = 0; round < 5; round++) {
                int summers = maze.account(6);
                maze.undo();
                maze.undo();
                maze.undo();
                accountDue(maze, 6, summers - 3);
                accountDue(maze, 10, 5);
                summers(maze, 7);
                accountDue(maze, 10, 8);
            }
            accountDue(maze, 6, 50);
        });
    }

    private static void restoreForgets() {
        term("restore forgets it.", () -> {
            MazeBonds maze = new MazeBonds();
            maze.summer();
            maze.save();
            summers(maze, 9);
            maze.restore();
            accountDue(maze, 10, 0);
            Expect.wrongState("none is left", () -> maze.undo());
            accountDue(maze, 6, 1);
            maze.summer();
            due("undo of a call after it", maze.undo(), 0);
            accountDue(maze, 6, 1);
            Expect.wrongState("none is left again", () -> maze.undo());
        });
    }

    private static void whatStays() {
        term("The text buffer, the fault position, the reason and the line do not belong to it, and stay.", () -> {
            MazeBonds maze = new MazeBonds();
            maze.visitor(9);
            maze.save();
            maze.walk(0, EAST);
            Expect.outcome(() -> Expect.commands(maze, "s;x"));
            Expect.outcome(() -> maze.hedge(3, 4, 1));
            Expect.append(maze, "s;");
            maze.line(0);
            String when = "after the undo of a call before them";
            maze.undo();
            staysDue(maze, when);
            maze.undo();
            staysDue(maze, when);
            maze.restore();
            staysDue(maze, "after restore");
            due("the text goes on", Expect.commands(maze, "s"), 2);
            due("undo of these commands", maze.undo(), 0);
            due("their fault position stays", maze.faultPosition(), NONE);
        });
    }

    private static void staysDue(MazeBonds maze, String when) {
        due("the buffer " + when, maze.account(11), 2);
        due("the fault position " + when, maze.faultPosition(), 2);
        due("the reason " + when, Whole.reason(maze), "2 4 0");
        due("the line " + when, Whole.line(maze), "1+1");
    }

    private static void gapShare() {
        promise(36, "Returns what part of the hedges is gaps, both numbers as floats.", () -> {
            MazeBonds maze = new MazeBonds();
            due("all", maze.gapShare(), 1.0f);
            int gaps = 24;
            for (int one = 0; one < 16; one++) {
                for (int other = one + 1; other < 16; other++) {
                    if (areNeighbours(one, other)) {
                        maze.hedge(one, other, 4);
                        due("with 4 leaves", maze.gapShare(), gaps / 24.0f);
                        maze.hedge(one, other, 5);
                        gaps--;
                        due("with 5 leaves", maze.gapShare(), gaps / 24.0f);
                    }
                }
            }
            due("none", maze.gapShare(), 0.0f);
        });
    }

    private static void account() {
        promise(37, "Throws IllegalArgumentException if what is not from 0 to 11", () -> {
            MazeBonds maze = new MazeBonds();
            for (int what : new int[] {Integer.MIN_VALUE, -1, 12, Integer.MAX_VALUE}) {
                Expect.wrongArgument("what " + what, () -> maze.account(what));
            }
            accountDue(maze, 0, 0);
            accountDue(maze, 11, 0);
        });
        promise(37, "6 for the summers so far", () -> {
            MazeBonds maze = new MazeBonds();
            summers(maze, 12);
            accountDue(maze, 6, 12);
            maze.undo();
            accountDue(maze, 6, 11);
        });
        promise(37, "10 for the changes that can be undone, 11 for the characters in the text buffer", () -> {
            MazeBonds maze = new MazeBonds();
            for (int length = 1; length <= 60; length++) {
                maze.append('s');
                accountDue(maze, 11, length);
                accountDue(maze, 10, 0);
            }
            for (int change = 1; change <= 10; change++) {
                maze.summer();
                accountDue(maze, 10, Math.min(8, change));
            }
            accountDue(maze, 11, 60);
        });
    }

    private static void accountsOfPeople() {
        promise(37, "0 for the gardeners, 1 for the visitors, 2 for those who are out,", () -> {
            MazeBonds maze = new MazeBonds();
            for (int number = 1; number <= 4; number++) {
                maze.gardener(1);
                accountDue(maze, 0, number);
            }
            for (int number = 1; number <= 5; number++) {
                maze.visitor(1);
                accountDue(maze, 1, number);
            }
            for (int visitor = 0; visitor < 5; visitor++) {
                accountDue(maze, 2, visitor);
                walkOut(maze, visitor);
            }
            accountDue(maze, 2, 5);
            accountDue(maze, 1, 5);
        });
        promise(37, "3 for the bonds that last, 4 for those of them that are void, 5 for the gaps,", () -> {
            MazeBonds maze = new MazeBonds();
            maze.gardener(1);
            for (int visitor = 0; visitor < 5; visitor++) {
                maze.visitor(2);
                maze.bond(0, visitor, 1);
                accountDue(maze, 3, visitor + 1);
            }
            accountDue(maze, 4, 0);
            maze.walk(0, EAST);
            maze.minotaur(0);
            accountDue(maze, 3, 5);
            accountDue(maze, 4, 4);
            walkOut(maze, 1);
            accountDue(maze, 3, 4);
            accountDue(maze, 4, 3);
            maze.minotaur(NONE);
            accountDue(maze, 4, 3);
            accountDue(maze, 5, 24);
            maze.hedge(0, 1, 4);
            accountDue(maze, 5, 24);
            maze.hedge(0, 1, 5);
            accountDue(maze, 5, 23);
        });
    }

    private static void accountsOfCoins() {
        promise(37, "7 for the coins brought so far, 8 for the coins spent on trimming so far, 9 for the coins of all,", () -> {
            MazeBonds maze = new MazeBonds();
            for (int gardener = 0; gardener < 4; gardener++) {
                maze.gardener(99);
            }
            for (int visitor = 0; visitor < 5; visitor++) {
                maze.visitor(99);
            }
            accountDue(maze, 7, 891);
            maze.bond(3, 4, 5);
            maze.rest(4, 9);
            walkOut(maze, 4);
            visitorDue(maze, 4, 0, 134);
            accountDue(maze, 9, 891);
            maze.hedge(0, 1, 1);
            maze.trim(0, 0, 1);
            accountDue(maze, 7, 891);
            accountDue(maze, 8, 2);
            accountDue(maze, 9, 889);
            maze.undo();
            accountDue(maze, 8, 0);
            accountDue(maze, 9, 891);
        });
    }

    private static void undo() {
        promise(38, "Returns the number of calls that can still be undone.", () -> {
            MazeBonds maze = new MazeBonds();
            maze.summer();
            due("the only one", maze.undo(), 0);
            summers(maze, 2);
            due("the latest of two", maze.undo(), 1);
            due("the first of two", maze.undo(), 0);
            summers(maze, 9);
            due("the latest of nine", maze.undo(), 7);
        });
        promise(38, "Throws IllegalStateException if there is none", () -> {
            MazeBonds maze = new MazeBonds();
            Expect.wrongState("none at first", () -> maze.undo());
            maze.summer();
            maze.undo();
            Expect.wrongState("an undo can't be undone", () -> maze.undo());
            maze.save();
            Expect.wrongState("neither can save", () -> maze.undo());
            maze.restore();
            Expect.wrongState("nor restore", () -> maze.undo());
        });
    }

    private static void save() {
        promise(39, "Returns how many visitors there are.", () -> {
            MazeBonds maze = new MazeBonds();
            for (int count = 0; count <= 5; count++) {
                due("save", maze.save(), count);
                if (count < 5) {
                    maze.visitor(1);
                }
            }
            walkOut(maze, 0);
            due("one is out", maze.save(), 5);
        });
        promise(39, "Saves all that can be undone, in place of an earlier snapshot.", () -> {
            MazeBonds maze = FailureBoundaries.busy();
            maze.save();
            accountDue(maze, 10, 8);
            Expect.commands(maze, "5;g9;w0s");
            String second = Whole.seen(maze);
            due("the latest snapshot", maze.save(), 2);
            maze.summer();
            maze.restore();
            due("it is in place of the earlier one", Whole.seen(maze), second);
            due("again", maze.restore(), 2);
            due("it is still there", Whole.seen(maze), second);
        });
    }

    private static void restore() {
        promise(40, "Returns how many visitors there are.", () -> {
            MazeBonds maze = new MazeBonds();
            maze.save();
            maze.visitor(1);
            due("none were there", maze.restore(), 0);
            maze.visitor(1);
            maze.visitor(1);
            walkOut(maze, 1);
            maze.save();
            maze.undo();
            due("one of two is out", maze.restore(), 2);
            visitorDue(maze, 1, 8, 1);
        });
        promise(40, "Throws IllegalStateException if there is no snapshot", () -> {
            MazeBonds maze = new MazeBonds();
            maze.summer();
            Expect.wrongState("no snapshot", () -> maze.restore());
            due("the change can still be undone", maze.undo(), 0);
            maze.save();
            due("a snapshot of a new maze", maze.restore(), 0);
        });
        promise(40, "the snapshot is kept.", () -> {
            MazeBonds maze = new MazeBonds();
            maze.visitor(9);
            maze.save();
            for (int round = 0; round < 3; round++) {
                maze.walk(0, EAST);
                maze.visitor(1);
                maze.gardener(1);
                due("restore", maze.restore(), 1);
                visitorDue(maze, 0, 1, 0);
                accountDue(maze, 0, 0);
            }
        });
        promise(40, "Restores what was saved", () -> {
            MazeBonds maze = FailureBoundaries.busy();
            maze.save();
            String saved = Whole.seen(maze);
            Expect.commands(maze, "5;h0-1=5;g9;v9;t0:4-5;w0s;mx;r0+9");
            due("something has changed", Whole.seen(maze).equals(saved), false);
            maze.restore();
            due("all as saved", Whole.seen(maze), saved);
        });
        promise(40, "Restores what was saved", () -> {
            MazeBonds maze = people(7, 8);
            String saved = Whole.seen(maze);
            maze.save();
            maze.undo();
            maze.undo();
            Expect.commands(maze, "h0-1=5;h4-8=5;h5-9=5;h6-10=5;h6-7=5;v60;g50;b0>0*5");
            visitorDue(maze, 0, 3, 8);
            maze.restore();
            due("those who were saved, not who came in their places", Whole.seen(maze), saved);
        });
    }
}
