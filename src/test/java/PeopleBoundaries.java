/** The boundaries that the promises 22 to 27 and 35 name: what is told of gardeners and visitors. */
final class PeopleBoundaries extends Boundary {
    private static final String NO_GARDENER = "Throws IndexOutOfBoundsException if there is no such gardener";
    private static final String NO_VISITOR = "Throws IndexOutOfBoundsException if there is no such visitor";
    private static final int[] BEYOND = {Integer.MIN_VALUE, -1, Integer.MAX_VALUE};

    private interface OfOne {
        void ask(MazeBonds maze, int number);
    }

    private PeopleBoundaries() {
    }

    static void all() {
        noGardener(22, (maze, gardener) -> maze.gardenerOf(gardener, 0));
        noGardener(25, MazeBonds::owed);
        noVisitor(23, (maze, visitor) -> maze.visitorOf(visitor, 0));
        noVisitor(24, MazeBonds::wouldPay);
        noVisitor(32, MazeBonds::line);
        gardenerOf();
        visitorOf();
        wouldPay();
        wouldPayNothing();
        owed();
        ranked();
        rankedNowhere();
        richest();
        meanLost();
    }

    private static void noGardener(int number, OfOne call) {
        promise(number, NO_GARDENER, () -> {
            MazeBonds maze = new MazeBonds();
            for (int count = 0; count <= 4; count++) {
                int first = count;
                Expect.outOfBounds("of " + count + ", the first", () -> call.ask(maze, first));
                for (int beyond : BEYOND) {
                    Expect.outOfBounds("of " + count + ", " + beyond, () -> call.ask(maze, beyond));
                }
                if (count < 4) {
                    maze.gardener(1);
                    due("the latest", Expect.outcome(() -> call.ask(maze, first)), "nothing");
                }
            }
            maze.undo();
            Expect.outOfBounds("who was undone", () -> call.ask(maze, 3));
        });
    }

    private static void noVisitor(int number, OfOne call) {
        promise(number, NO_VISITOR, () -> {
            MazeBonds maze = new MazeBonds();
            maze.gardener(1);
            for (int count = 0; count <= 5; count++) {
                int first = count;
                Expect.outOfBounds("of " + count + ", the first", () -> call.ask(maze, first));
                for (int beyond : BEYOND) {
                    Expect.outOfBounds("of " + count + ", " + beyond, () -> call.ask(maze, beyond));
                }
                if (count < 5) {
                    maze.visitor(9);
                    maze.bond(0, count, 1);
                    due("the latest", Expect.outcome(() -> call.ask(maze, first)), "nothing");
                }
            }
            maze.undo();
            maze.undo();
            Expect.outOfBounds("who was undone", () -> call.ask(maze, 4));
        });
    }

    private static void gardenerOf() {
        promise(22, "what: 0 for the coins, 1 for the bonds that last, 2 for the premiums so far, 3 for what bonds paid "
            + "so far, 4 for the hedges trimmed so far", () -> {
            MazeBonds maze = people(20, 20);
            maze.gardener(7);
            maze.visitor(20);
            maze.bond(0, 0, 3);
            maze.bond(0, 1, 1);
            maze.minotaur(0);
            int[] withVoid = {28, 2, 8, 0, 0};
            for (int what = 0; what < withVoid.length; what++) {
                gardenerDue(maze, 0, what, withVoid[what]);
            }
            maze.undo();
            maze.hedge(9, 10, 1);
            maze.trim(0, 9, 10);
            maze.rest(0, 2);
            walkOut(maze, 0);
            int[] withOneOut = {20, 1, 8, 6, 1};
            int[] other = {7, 0, 0, 0, 0};
            for (int what = 0; what < withOneOut.length; what++) {
                gardenerDue(maze, 0, what, withOneOut[what]);
                gardenerDue(maze, 1, what, other[what]);
            }
        });
        promise(22, "Throws IllegalArgumentException if what is not from 0 to 4", () -> {
            MazeBonds maze = people(1, 1);
            for (int what : new int[] {Integer.MIN_VALUE, -1, 5, Integer.MAX_VALUE}) {
                Expect.wrongArgument("what " + what, () -> maze.gardenerOf(0, what));
                Expect.outOfBounds("no gardener comes ahead of what " + what, () -> maze.gardenerOf(1, what));
            }
            gardenerDue(maze, 0, 0, 1);
            gardenerDue(maze, 0, 4, 0);
        });
    }

    private static void visitorOf() {
        promise(23, "what: 0 for the coins, 1 for the cell, 2 for the hours spent, 3 for the allowance, 4 for what the "
            + "visitor has lost, 5 for the gardener of the bond, -1 for none, 6 for its rate, 0 for none, 7 for 1 if the "
            + "bond is void, otherwise 0, 8 for 1 if the visitor is out, otherwise 0", () -> {
            MazeBonds maze = people(9, 20);
            int[][] due = {
                {20, 0, 0, 6, 0, -1, 0, 0, 0}, {14, 0, 0, 6, 0, 0, 3, 0, 0}, {14, 4, 8, 6, 2, 0, 3, 0, 0},
                {14, 4, 8, 6, 2, 0, 3, 1, 0}, {14, 15, 13, 6, 7, -1, 0, 0, 1}};
            visitorDue(maze, due[0]);
            maze.bond(0, 0, 3);
            visitorDue(maze, due[1]);
            maze.rest(0, 7);
            maze.walk(0, SOUTH);
            visitorDue(maze, due[2]);
            maze.minotaur(4);
            visitorDue(maze, due[3]);
            walkAll(maze, 0, SOUTH, SOUTH, EAST, EAST, EAST);
            visitorDue(maze, due[4]);
        });
        promise(23, "Throws IllegalArgumentException if what is not from 0 to 8", () -> {
            MazeBonds maze = people(1, 1);
            for (int what : new int[] {Integer.MIN_VALUE, -1, 9, Integer.MAX_VALUE}) {
                Expect.wrongArgument("what " + what, () -> maze.visitorOf(0, what));
                Expect.outOfBounds("no visitor comes ahead of what " + what, () -> maze.visitorOf(1, what));
            }
            visitorDue(maze, 0, 0, 1);
            visitorDue(maze, 0, 8, 0);
        });
    }

    private static void visitorDue(MazeBonds maze, int[] numbers) {
        for (int what = 0; what < numbers.length; what++) {
            visitorDue(maze, 0, what, numbers[what]);
        }
    }

    private static void wouldPay() {
        promise(24, "Returns what the bond would pay if the visitor went to the exit by a way with the fewest hours now,",
            () -> {
                MazeBonds maze = bonded(50, 20, 2);
                due("no hour is lost", maze.wouldPay(0), 0);
                maze.rest(0, 1);
                due("one hour is lost on the way", maze.wouldPay(0), 2);
                maze.walk(0, EAST);
                due("a step on the way", maze.wouldPay(0), 2);
                maze.walk(0, WEST);
                due("a step back", maze.wouldPay(0), 6);
                maze.hedge(0, 1, 5);
                maze.hedge(4, 8, 5);
                maze.hedge(5, 9, 5);
                maze.hedge(6, 10, 5);
                maze.hedge(6, 7, 5);
                due("a longer way", maze.wouldPay(0), 10);
                visitorDue(maze, 0, 2, 3);
                gardenerDue(maze, 0, 3, 0);
            });
        promise(24, "the minotaur left out of account.", () -> {
            MazeBonds maze = bonded(50, 20, 2);
            maze.rest(0, 1);
            maze.hedge(11, 15, 5);
            maze.minotaur(14);
            due("he is on the only way", maze.wouldPay(0), 2);
            maze.minotaur(15);
            due("he is in the exit", maze.wouldPay(0), 2);
            visitorDue(maze, 0, 7, 0);
        });
    }

    private static void wouldPayNothing() {
        promise(24, "Throws NoSuchElementException if the visitor is out, has no bond, or there is no way", () -> {
            MazeBonds maze = people(50, 20);
            Expect.noSuch("no bond", () -> maze.wouldPay(0));
            maze.bond(0, 0, 1);
            maze.hedge(11, 15, 5);
            maze.hedge(14, 15, 4);
            due("by the last gap", maze.wouldPay(0), 0);
            maze.hedge(14, 15, 5);
            Expect.noSuch("no way", () -> maze.wouldPay(0));
            maze.hedge(11, 15, 0);
            walkOut(maze, 0);
            Expect.noSuch("out", () -> maze.wouldPay(0));
        });
    }

    private static void owed() {
        promise(25, "Returns what all bonds of a gardener that last and are not void would pay,", () -> {
            MazeBonds maze = bonded(50, 20, 2);
            maze.gardener(50);
            maze.visitor(20);
            maze.visitor(20);
            maze.bond(0, 1, 3);
            maze.bond(1, 2, 5);
            for (int visitor = 0; visitor < 3; visitor++) {
                maze.rest(visitor, 7);
            }
            due("two bonds", maze.owed(0), 5);
            due("the other's bond", maze.owed(1), 5);
            walkOut(maze, 0);
            due("one is out", maze.owed(0), 3);
            maze.minotaur(0);
            due("one is void", maze.owed(0), 0);
            due("the other's is void", maze.owed(1), 0);
        });
        promise(25, "if their visitors came into the exit with what they have lost by now,", () -> {
            MazeBonds maze = bonded(50, 20, 2);
            maze.rest(0, 5);
            due("below the allowance", maze.owed(0), 0);
            maze.rest(0, 1);
            due("as much as the allowance", maze.owed(0), 0);
            maze.rest(0, 1);
            due("one hour above it, the way ahead left out", maze.owed(0), 2);
            maze.hedge(11, 15, 9);
            maze.hedge(14, 15, 9);
            due("without a way", maze.owed(0), 2);
        });
        promise(25, "Returns what all bonds of a gardener that last and are not void would pay,", () -> {
            MazeBonds maze = people(9, 20);
            for (int visitor = 1; visitor < 5; visitor++) {
                maze.visitor(20);
            }
            for (int visitor = 0; visitor < 5; visitor++) {
                maze.bond(0, visitor, 1 + visitor);
                maze.rest(visitor, 7);
            }
            due("as many bonds as there can be", maze.owed(0), 15);
        });
        promise(25, "however few coins the gardener has.", () -> {
            MazeBonds maze = bonded(0, 10, 5);
            maze.rest(0, 8);
            due("just what the gardener has", maze.owed(0), 10);
            maze.rest(0, 1);
            due("more than the gardener has", maze.owed(0), 15);
        });
    }

    private static void ranked() {
        promise(26, "Returns a visitor by a measure: the greatest first, of several the lowest.", () -> {
            MazeBonds maze = new MazeBonds();
            for (int coins : new int[] {5, 9, 5, 0, 9}) {
                maze.visitor(coins);
            }
            rankedDue(maze, 0, 1, 4, 0, 2, 3);
            for (int measure = 1; measure <= 3; measure++) {
                rankedDue(maze, measure, 0, 1, 2, 3, 4);
            }
        });
        promise(26, "measure: 0 for the coins, 1 for the hours spent, 2 for what the visitor has lost, 3 for the rate of "
            + "the bond", () -> {
            MazeBonds maze = winding();
            maze.gardener(90);
            maze.visitor(11);
            maze.hedge(0, 4, 0);
            maze.visitor(30);
            maze.visitor(20);
            maze.rest(0, 9);
            maze.rest(1, 8);
            maze.rest(2, 7);
            rankedDue(maze, 0, 1, 2, 0);
            rankedDue(maze, 1, 0, 1, 2);
            rankedDue(maze, 2, 1, 2, 0);
            maze.bond(0, 2, 1);
            maze.bond(0, 0, 5);
            rankedDue(maze, 3, 0, 2, 1);
            maze.minotaur(0);
            rankedDue(maze, 3, 0, 2, 1);
            maze.hedge(11, 15, 4);
            walkAll(maze, 0, SOUTH, SOUTH, EAST, EAST, EAST, SOUTH);
            rankedDue(maze, 3, 2, 0, 1);
        });
        promise(26, "place: the place in this order, from 0", () -> {
            MazeBonds maze = withVisitors(2);
            maze.rest(1, 1);
            due("the place 0", maze.ranked(1, 0), 1);
            due("the place 1", maze.ranked(1, 1), 0);
        });
    }

    private static void rankedDue(MazeBonds maze, int measure, int... visitors) {
        for (int place = 0; place < visitors.length; place++) {
            due("ranked(" + measure + ", " + place + ")", maze.ranked(measure, place), visitors[place]);
        }
    }

    private static void rankedNowhere() {
        promise(26, "Throws IllegalArgumentException if there is no such measure", () -> {
            MazeBonds maze = withVisitors(1);
            MazeBonds empty = new MazeBonds();
            for (int measure : new int[] {Integer.MIN_VALUE, -1, 4, Integer.MAX_VALUE}) {
                Expect.wrongArgument("the measure " + measure, () -> maze.ranked(measure, 0));
                Expect.wrongArgument("it comes ahead of the place", () -> maze.ranked(measure, 1));
                Expect.wrongArgument("also without visitors", () -> empty.ranked(measure, 0));
            }
            due("the measure 3", maze.ranked(3, 0), 0);
        });
        promise(26, "Throws NoSuchElementException if there is no such place", () -> {
            MazeBonds maze = new MazeBonds();
            for (int count = 0; count <= 5; count++) {
                int behind = count;
                for (int measure = 0; measure <= 3; measure++) {
                    int by = measure;
                    Expect.noSuch("behind the last", () -> maze.ranked(by, behind));
                    Expect.noSuch("the place -1", () -> maze.ranked(by, -1));
                    Expect.noSuch("the greatest place", () -> maze.ranked(by, Integer.MAX_VALUE));
                    due("the last", count == 0 ? 0 : maze.ranked(measure, count - 1), Math.max(0, count - 1));
                }
                if (count < 5) {
                    maze.visitor(1);
                }
            }
        });
    }

    private static void richest() {
        promise(27, "Returns a gardener by the coins: the most first, of several the one who owes less, then the lowest.",
            () -> {
                MazeBonds maze = bonded(5, 20, 1);
                for (int coins : new int[] {7, 0, 7}) {
                    maze.gardener(coins);
                }
                richestDue(maze, 0, 1, 3, 2);
                maze.rest(0, 7);
                due("the first owes more", maze.owed(0), 1);
                richestDue(maze, 1, 3, 0, 2);
                maze.minotaur(0);
                due("the first owes nothing", maze.owed(0), 0);
                richestDue(maze, 0, 1, 3, 2);
                maze.hedge(0, 4, 1);
                maze.trim(0, 0, 4);
                richestDue(maze, 1, 3, 0, 2);
            });
        promise(27, "place: the place in this order, from 0", () -> {
            MazeBonds maze = people(1, 1);
            maze.gardener(2);
            due("the place 0", maze.richest(0), 1);
            due("the place 1", maze.richest(1), 0);
        });
        promise(27, "Throws NoSuchElementException if there is no such place", () -> {
            MazeBonds maze = new MazeBonds();
            for (int count = 0; count <= 4; count++) {
                int behind = count;
                Expect.noSuch("behind the last", () -> maze.richest(behind));
                Expect.noSuch("the place -1", () -> maze.richest(-1));
                Expect.noSuch("the greatest place", () -> maze.richest(Integer.MAX_VALUE));
                due("the last", count == 0 ? 0 : maze.richest(count - 1), Math.max(0, count - 1));
                if (count < 4) {
                    maze.gardener(1);
                }
            }
        });
    }

    private static void richestDue(MazeBonds maze, int... gardeners) {
        for (int place = 0; place < gardeners.length; place++) {
            due("richest(" + place + ")", maze.richest(place), gardeners[place]);
        }
    }

    private static void meanLost() {
        promise(35, "Throws ArithmeticException if there are none", () -> {
            MazeBonds maze = new MazeBonds();
            Expect.fails("no visitors", ArithmeticException.class, () -> maze.meanLost());
            maze.visitor(1);
            due("one visitor", maze.meanLost(), 0.0);
            maze.undo();
            Expect.fails("no visitor any more", ArithmeticException.class, () -> maze.meanLost());
        });
        promise(35, "Returns the mean of what the visitors have lost: the sum divided by their number, both as doubles.",
            () -> {
                MazeBonds maze = withVisitors(3);
                maze.rest(0, 7);
                due("a third", maze.meanLost(), 1.0 / 3.0);
                maze.rest(1, 7);
                due("two thirds", maze.meanLost(), 2.0 / 3.0);
                walkOut(maze, 2);
                due("who is out counts", maze.meanLost(), 2.0 / 3.0);
                maze.rest(1, 9);
                due("above 1", maze.meanLost(), 11.0 / 3.0);
            });
    }
}
