/** The boundaries that the document's first section and its terms name, up to the bonds. */
final class TermsBoundaries extends Boundary {
    private TermsBoundaries() {
    }

    static void all() {
        calls();
        divisions();
        cells();
        hedges();
        entranceAndExit();
        ways();
        summers();
        gardeners();
        trimming();
        minotaur();
        meeting();
        visitors();
        hours();
        givingBonds();
        payingBonds();
        voidBonds();
    }

    private static void calls() {
        holds("What it is", "An object is used for at most 512 calls after it has been made", () -> {
            MazeBonds summery = new MazeBonds();
            summers(summery, 511);
            due("the 512th call: the summers", summery.account(6), 511);
            MazeBonds resting = bonded(0, 10, 5);
            for (int call = 4; call <= 511; call++) {
                resting.rest(0, 9);
            }
            due("the 512th call: what is owed", resting.owed(0), 5 * (508 * 9 - 6));
            MazeBonds refusing = new MazeBonds();
            for (int call = 1; call <= 510; call++) {
                Expect.outcome(() -> refusing.walk(0, 0));
            }
            due("the 511th call: the reason", refusing.reason(0), 7);
            due("the 512th call: a change", refusing.visitor(1), 0);
            MazeBonds typing = new MazeBonds();
            for (int text = 0; text < 8; text++) {
                due("calls of commands", Expect.commands(typing, "s;".repeat(29) + "s"), 30);
            }
            due("the 481st call: the summers", typing.account(6), 240);
        });
    }

    private static void divisions() {
        term("Divisions are rounded down, unless something else is told.", () -> {
            MazeBonds maze = withVisitors(2);
            maze.rest(0, 7);
            due("the mean is told as a double", maze.meanLost(), 0.5);
            maze.hedge(0, 1, 5);
            due("the share is told as a float", maze.gapShare(), 23.0f / 24.0f);
        });
        term("A bond pays at the exit alone.", () -> {
            MazeBonds maze = bonded(50, 10, 1);
            maze.rest(0, 9);
            walkAll(maze, 0, SOUTH, SOUTH, SOUTH, EAST, EAST);
            due("nothing is paid ahead of the exit", maze.gardenerOf(0, 3), 0);
            visitorDue(maze, 0, 0, 8);
            maze.walk(0, EAST);
            due("it is paid at the exit", maze.gardenerOf(0, 3), 9);
            visitorDue(maze, 0, 0, 17);
        });
    }

    private static void cells() {
        term("The maze has the cells 0 to 15, in four rows of four, numbered row by row", () -> {
            MazeBonds maze = new MazeBonds();
            for (int cell : BEYOND_CELLS) {
                Expect.outOfBounds("reached(" + cell + ")", () -> maze.reached(cell));
            }
            due("reached(0)", maze.reached(0), 0xffff);
            due("reached(15)", maze.reached(15), 0xffff);
            due("from the last of a row to the first of the next", maze.hours(3, 4), 4);
            due("from corner to corner", maze.hours(0, 15), 6);
            due("from the other corner to the other", maze.hours(3, 12), 6);
        });
        term("cells next to one another in a row or a column are neighbours.", () -> {
            MazeBonds maze = new MazeBonds();
            for (int one = 0; one < 16; one++) {
                for (int other = 0; other < 16; other++) {
                    due("isGap " + one + " " + other, maze.isGap(one, other), areNeighbours(one, other));
                }
            }
        });
        term("A cell is no neighbour of itself.", () -> {
            MazeBonds maze = new MazeBonds();
            for (int cell = 0; cell < 16; cell++) {
                int same = cell;
                due("isGap", maze.isGap(same, same), false);
                Expect.noSuch("leaves", () -> maze.leaves(same, same));
                refused(maze, 2, same, "hedge", () -> maze.hedge(same, same, 1));
            }
        });
    }

    private static void hedges() {
        term("Between two neighbours is a hedge with leaves from 0 to 9, at first 0", () -> {
            MazeBonds maze = new MazeBonds();
            due("at first", maze.leaves(0, 1), 0);
            due("at first", maze.leaves(11, 15), 0);
            due("9 leaves", maze.hedge(0, 1, 9), 0);
            due("9 leaves then", maze.leaves(1, 0), 9);
            due("0 leaves", maze.hedge(0, 1, 0), 9);
            refused(maze, 1, 0, "10 leaves", () -> maze.hedge(0, 1, 10));
            refused(maze, 1, 0, "-1 leaves", () -> maze.hedge(0, 1, -1));
        });
        term("with fewer than 5 leaves it is a gap.", () -> {
            MazeBonds maze = new MazeBonds();
            due("0 leaves", maze.isGap(0, 1), true);
            for (int leaves = 1; leaves <= 9; leaves++) {
                maze.hedge(0, 1, leaves);
                due(leaves + " leaves", maze.isGap(0, 1), leaves < 5);
            }
        });
        term("What is no gap is not needed.", () -> {
            MazeBonds maze = new MazeBonds();
            maze.hedge(0, 1, 5);
            due("5 leaves beside the only gap", maze.isNeeded(0, 1), false);
            due("the only gap", maze.isNeeded(0, 4), true);
            maze.hedge(0, 4, 5);
            due("the hedge that closes all", maze.isNeeded(0, 4), false);
        });
    }

    private static void entranceAndExit() {
        term("Visitors come in at the cell 0, which is the entrance", () -> {
            MazeBonds maze = withVisitors(1);
            visitorDue(maze, 0, 1, 0);
            maze.walk(0, EAST);
            maze.visitor(1);
            visitorDue(maze, 1, 1, 0);
            due("the row of the entrance", rowOf(maze, 0), "1 1 0 0");
        });
        term("the cell 15 is the exit.", () -> {
            MazeBonds maze = withVisitors(1);
            walkAll(maze, 0, EAST, EAST, EAST, SOUTH, SOUTH);
            visitorDue(maze, 0, 8, 0);
            walkAll(maze, 0, WEST, SOUTH);
            visitorDue(maze, 0, 8, 0);
            maze.walk(0, EAST);
            visitorDue(maze, 0, 8, 1);
            visitorDue(maze, 0, 1, 15);
        });
        term("Who comes into the exit is out.", () -> {
            MazeBonds maze = withVisitors(2);
            walkAll(maze, 0, EAST, EAST, EAST, SOUTH, SOUTH);
            accountDue(maze, 2, 0);
            maze.walk(0, SOUTH);
            accountDue(maze, 2, 1);
            walkAll(maze, 1, SOUTH, SOUTH, SOUTH, EAST, EAST, EAST);
            accountDue(maze, 2, 2);
            due("the line", lineOf(maze, 1), "out+6");
        });
    }

    private static void ways() {
        term("A way goes from cell to neighbour through gaps, and takes an hour for each gap.", () -> {
            MazeBonds maze = new MazeBonds();
            due("no gap, no hour", maze.hours(6, 6), 0);
            due("one gap", maze.hours(6, 10), 1);
            maze.hedge(6, 10, 4);
            due("a gap with 4 leaves", maze.hours(6, 10), 1);
            maze.hedge(6, 10, 5);
            due("past a hedge with 5 leaves", maze.hours(6, 10), 3);
            due("the longest way", winding().hours(0, 12), 15);
        });
    }

    private static void summers() {
        term("In a summer each hedge gets 1 leaf more, up to 9.", () -> {
            MazeBonds maze = new MazeBonds();
            maze.hedge(0, 1, 8);
            maze.hedge(1, 2, 9);
            maze.summer();
            due("8 to 9", maze.leaves(0, 1), 9);
            due("9 stays", maze.leaves(1, 2), 9);
            for (int one = 0; one < 16; one++) {
                for (int other = one + 1; other < 16; other++) {
                    if (areNeighbours(one, other) && one > 1) {
                        due("0 to 1", maze.leaves(one, other), 1);
                    }
                }
            }
            summers(maze, 8);
            due("after nine summers", maze.leaves(11, 15), 9);
            maze.summer();
            due("after ten summers", maze.leaves(11, 15), 9);
        });
    }

    private static void gardeners() {
        term("At most 4 gardeners are there, numbered from 0, each with coins.", () -> {
            MazeBonds maze = new MazeBonds();
            Expect.outOfBounds("no gardener", () -> maze.gardenerOf(0, 0));
            for (int number = 0; number < 4; number++) {
                due("the number", maze.gardener(10 + number), number);
            }
            refused(maze, 13, 4, "a fifth gardener", () -> maze.gardener(1));
            for (int number = 0; number < 4; number++) {
                gardenerDue(maze, number, 0, 10 + number);
            }
            Expect.outOfBounds("the gardener 4", () -> maze.gardenerOf(4, 0));
            maze.undo();
            due("a fourth one again", maze.gardener(7), 3);
        });
    }

    private static void trimming() {
        term("To trim a hedge costs a gardener 2 coins, which are gone", () -> {
            MazeBonds maze = people(2, 9);
            maze.gardener(3);
            maze.hedge(0, 1, 9);
            maze.hedge(1, 2, 1);
            due("the last 2 coins", maze.trim(0, 0, 1), 0);
            due("2 of 3 coins", maze.trim(1, 1, 2), 1);
            due("the coins of all", maze.account(9), 10);
            due("what was spent", maze.account(8), 4);
            maze.hedge(0, 1, 1);
            refused(maze, 5, 2, "without coins", () -> maze.trim(0, 0, 1));
            refused(maze, 5, 1, "with one coin", () -> maze.trim(1, 0, 1));
        });
        term("it has 0 leaves then.", () -> {
            MazeBonds maze = people(10, 9);
            maze.hedge(0, 1, 9);
            maze.trim(0, 0, 1);
            due("of 9 leaves", maze.leaves(0, 1), 0);
            maze.hedge(1, 2, 1);
            maze.trim(0, 2, 1);
            due("of 1 leaf", maze.leaves(1, 2), 0);
        });
    }

    private static void minotaur() {
        term("The minotaur is in a cell, or, as at first, in none.", () -> {
            MazeBonds maze = new MazeBonds();
            for (int row = 0; row < 4; row++) {
                due("at first", rowOf(maze, row), "0 0 0 0");
            }
            refused(maze, 3, NONE, "he is in none already", () -> maze.minotaur(NONE));
            maze.minotaur(0);
            due("in the first cell", rowOf(maze, 0), "M 0 0 0");
            maze.minotaur(15);
            due("no more in the first cell", rowOf(maze, 0), "0 0 0 0");
            due("in the last cell", rowOf(maze, 3), "0 0 0 M");
            maze.minotaur(NONE);
            due("in none", rowOf(maze, 3), "0 0 0 0");
        });
        term("The minotaur can be in the entrance, or the exit", () -> {
            MazeBonds maze = people(9, 20);
            maze.bond(0, 0, 1);
            due("he comes to the entrance", maze.minotaur(0), 1);
            visitorDue(maze, 0, 7, 1);
            due("a visitor comes in there", maze.visitor(20), 1);
            refused(maze, 10, 0, "and meets him", () -> maze.bond(0, 1, 1));
            due("he comes to the exit", maze.minotaur(15), 0);
            due("the row", rowOf(maze, 3), "0 0 0 M");
        });
    }

    private static void meeting() {
        term("A visitor meets him who is in his cell, or comes there, or when he comes.", () -> {
            MazeBonds comes = bonded(9, 20, 1);
            comes.minotaur(1);
            visitorDue(comes, 0, 7, 0);
            comes.walk(0, EAST);
            due("who comes there", comes.visitorOf(0, 7), 1);
            MazeBonds stays = bonded(9, 20, 1);
            due("when he comes", stays.minotaur(0), 1);
            visitorDue(stays, 0, 7, 1);
            MazeBonds beside = bonded(9, 20, 1);
            due("when he comes beside", beside.minotaur(4), 0);
            visitorDue(beside, 0, 7, 0);
            MazeBonds is = people(9, 20);
            is.minotaur(0);
            refused(is, 10, 0, "who is in his cell", () -> is.bond(0, 0, 1));
            is.walk(0, EAST);
            due("who went away from him", is.bond(0, 0, 1), 18);
            visitorDue(is, 0, 7, 0);
        });
        term("who comes into the exit while he is there meets him ahead of what a bond pays.", () -> {
            MazeBonds maze = bonded(50, 10, 5);
            maze.rest(0, 9);
            maze.minotaur(15);
            walkOut(maze, 0);
            gardenerDue(maze, 0, 3, 0);
            gardenerDue(maze, 0, 0, 60);
            visitorDue(maze, 0, 0, 0);
            visitorDue(maze, 0, 8, 1);
        });
    }

    private static void visitors() {
        term("At most 5 visitors come, numbered from 0, each with coins,", () -> {
            MazeBonds maze = new MazeBonds();
            Expect.outOfBounds("no visitor", () -> maze.visitorOf(0, 0));
            for (int number = 0; number < 5; number++) {
                due("the number", maze.visitor(10 + number), number);
            }
            refused(maze, 13, 5, "a sixth visitor", () -> maze.visitor(1));
            for (int number = 0; number < 5; number++) {
                visitorDue(maze, number, 0, 10 + number);
            }
            Expect.outOfBounds("the visitor 5", () -> maze.visitorOf(5, 0));
            walkOut(maze, 4);
            refused(maze, 13, 5, "who is out has come as well", () -> maze.visitor(1));
        });
        term("and with an allowance of the fewest hours from the entrance to the exit as they are then.", () -> {
            MazeBonds maze = new MazeBonds();
            maze.visitor(1);
            maze.hedge(0, 1, 5);
            maze.hedge(4, 8, 5);
            maze.hedge(5, 9, 5);
            maze.hedge(6, 10, 5);
            maze.hedge(6, 7, 5);
            maze.visitor(1);
            visitorDue(maze, 0, 3, 6);
            visitorDue(maze, 1, 3, 8);
            MazeBonds longest = winding();
            longest.hedge(11, 15, 5);
            longest.hedge(8, 12, 0);
            longest.visitor(1);
            visitorDue(longest, 0, 3, 12);
        });
        term("A visitor can come back to the entrance", () -> {
            MazeBonds maze = withVisitors(1);
            walkAll(maze, 0, SOUTH, NORTH);
            visitorDue(maze, 0, 1, 0);
            visitorDue(maze, 0, 8, 0);
            visitorDue(maze, 0, 2, 2);
        });
        term("the allowance stays as it was.", () -> {
            MazeBonds maze = withVisitors(1);
            maze.walk(0, SOUTH);
            maze.hedge(0, 1, 5);
            maze.hedge(4, 8, 5);
            maze.hedge(5, 9, 5);
            maze.hedge(6, 10, 5);
            maze.hedge(6, 7, 5);
            visitorDue(maze, 0, 3, 6);
            maze.walk(0, NORTH);
            visitorDue(maze, 0, 3, 6);
        });
    }

    private static void hours() {
        term("Who walks through a gap, or rests, spends hours.", () -> {
            MazeBonds maze = withVisitors(2);
            visitorDue(maze, 0, 2, 0);
            maze.walk(0, EAST);
            visitorDue(maze, 0, 2, 1);
            due("rest", maze.rest(0, 9), 10);
            Expect.fails("north of the maze", UnsupportedOperationException.class, () -> maze.walk(0, NORTH));
            maze.hedge(1, 2, 5);
            Expect.fails("into a hedge", UnsupportedOperationException.class, () -> maze.walk(0, EAST));
            visitorDue(maze, 0, 2, 10);
            maze.summer();
            visitorDue(maze, 1, 2, 0);
        });
        term("What a visitor has lost are the hours spent less the allowance, but not below 0.", () -> {
            MazeBonds maze = withVisitors(1);
            visitorDue(maze, 0, 4, 0);
            maze.rest(0, 5);
            visitorDue(maze, 0, 4, 0);
            maze.rest(0, 1);
            visitorDue(maze, 0, 4, 0);
            maze.rest(0, 1);
            visitorDue(maze, 0, 4, 1);
        });
        term("To rest in the maze is allowed wherever one is, but not when one is out.", () -> {
            MazeBonds maze = withVisitors(1);
            due("in the entrance", maze.rest(0, 1), 1);
            maze.minotaur(1);
            maze.walk(0, EAST);
            due("where the minotaur is", maze.rest(0, 1), 3);
            for (int direction : new int[] {EAST, EAST, SOUTH, SOUTH}) {
                maze.walk(0, direction);
                maze.rest(0, 1);
            }
            visitorDue(maze, 0, 2, 11);
            maze.walk(0, SOUTH);
            refused(maze, 9, 12, "out", () -> maze.rest(0, 1));
            visitorDue(maze, 0, 2, 12);
        });
    }

    private static void givingBonds() {
        term("A gardener gives a visitor a bond with a rate from 1 to 5,", () -> {
            MazeBonds maze = people(9, 20);
            maze.visitor(20);
            refused(maze, 1, 0, "the rate 0", () -> maze.bond(0, 0, 0));
            refused(maze, 1, 0, "the rate 6", () -> maze.bond(0, 0, 6));
            due("the rate 1", maze.bond(0, 0, 1), 18);
            due("the rate 5", maze.bond(0, 1, 5), 10);
            visitorDue(maze, 0, 6, 1);
            visitorDue(maze, 1, 6, 5);
        });
        term("for a premium of twice the rate, which the visitor pays at once.", () -> {
            MazeBonds maze = people(0, 10);
            maze.visitor(9);
            due("with just enough coins", maze.bond(0, 0, 5), 0);
            gardenerDue(maze, 0, 0, 10);
            gardenerDue(maze, 0, 2, 10);
            accountDue(maze, 9, 19);
            refused(maze, 5, 1, "with one coin too few", () -> maze.bond(0, 1, 5));
            due("with one coin left", maze.bond(0, 1, 4), 1);
            gardenerDue(maze, 0, 0, 18);
        });
        term("A bond that is void is a bond, and another one cannot be given.", () -> {
            MazeBonds maze = bonded(9, 20, 2);
            maze.gardener(9);
            maze.minotaur(0);
            maze.minotaur(NONE);
            refused(maze, 8, 0, "a bond of the same gardener", () -> maze.bond(0, 0, 1));
            refused(maze, 8, 0, "a bond of the other gardener", () -> maze.bond(1, 0, 1));
            accountDue(maze, 3, 1);
            visitorDue(maze, 0, 5, 0);
            visitorDue(maze, 0, 6, 2);
        });
    }

    private static void payingBonds() {
        term("When the visitor comes into the exit, the bond pays the rate for each lost hour,", () -> {
            for (int hours = 0; hours <= 2; hours++) {
                MazeBonds maze = bonded(50, 10, 3);
                if (hours > 0) {
                    maze.rest(0, hours);
                }
                walkOut(maze, 0);
                gardenerDue(maze, 0, 3, 3 * hours);
                visitorDue(maze, 0, 0, 4 + 3 * hours);
                gardenerDue(maze, 0, 0, 56 - 3 * hours);
            }
        });
        term("but no more than the gardener has", () -> {
            for (int lacking = -1; lacking <= 1; lacking++) {
                MazeBonds maze = bonded(5 - lacking, 10, 5);
                maze.rest(0, 3);
                walkOut(maze, 0);
                gardenerDue(maze, 0, 3, Math.min(15, 15 - lacking));
                gardenerDue(maze, 0, 0, Math.max(0, -lacking));
                visitorDue(maze, 0, 0, Math.min(15, 15 - lacking));
            }
            MazeBonds poor = bonded(0, 10, 1);
            poor.hedge(4, 5, 5);
            poor.trim(0, 4, 5);
            poor.rest(0, 9);
            walkOut(poor, 0);
            due("of a gardener without coins", poor.gardenerOf(0, 3) + poor.gardenerOf(0, 0), 0);
        });
        term("It lasts until the visitor is out.", () -> {
            MazeBonds maze = bonded(50, 10, 3);
            walkAll(maze, 0, EAST, EAST, EAST, SOUTH, SOUTH);
            gardenerDue(maze, 0, 1, 1);
            accountDue(maze, 3, 1);
            maze.walk(0, SOUTH);
            gardenerDue(maze, 0, 1, 0);
            accountDue(maze, 3, 0);
        });
        term("Behind the exit a visitor has no bond any more.", () -> {
            MazeBonds maze = bonded(50, 10, 3);
            walkOut(maze, 0);
            visitorDue(maze, 0, 5, NONE);
            visitorDue(maze, 0, 6, 0);
            due("the line", lineOf(maze, 0), "out+6");
            MazeBonds met = bonded(50, 10, 3);
            met.minotaur(15);
            walkOut(met, 0);
            visitorDue(met, 0, 5, NONE);
            visitorDue(met, 0, 6, 0);
            visitorDue(met, 0, 7, 0);
            accountDue(met, 4, 0);
        });
    }

    private static void voidBonds() {
        term("a void bond pays nothing.", () -> {
            MazeBonds maze = bonded(50, 10, 3);
            maze.rest(0, 9);
            maze.minotaur(0);
            maze.minotaur(NONE);
            walkOut(maze, 0);
            gardenerDue(maze, 0, 3, 0);
            gardenerDue(maze, 0, 0, 56);
            visitorDue(maze, 0, 0, 4);
        });
        term("A bond is void if the visitor meets the minotaur while it lasts.", () -> {
            MazeBonds earlier = people(50, 10);
            earlier.minotaur(0);
            earlier.minotaur(NONE);
            earlier.bond(0, 0, 1);
            due("met before it was given", earlier.visitorOf(0, 7), 0);
            earlier.minotaur(0);
            due("met while it lasts", earlier.visitorOf(0, 7), 1);
            earlier.minotaur(5);
            due("it stays void", earlier.visitorOf(0, 7), 1);
            MazeBonds without = withVisitors(1);
            due("met without a bond", without.minotaur(0), 1);
            visitorDue(without, 0, 7, 0);
            accountDue(without, 4, 0);
            due("the line then", lineOf(without, 0), "0+0");
            MazeBonds later = bonded(50, 10, 1);
            walkOut(later, 0);
            due("who is out meets him no more", later.minotaur(15), 0);
            visitorDue(later, 0, 7, 0);
        });
        term("A void bond lasts, and would pay 0", () -> {
            MazeBonds maze = bonded(50, 10, 3);
            maze.rest(0, 9);
            due("it would pay", maze.wouldPay(0), 27);
            maze.minotaur(0);
            due("it would pay as a void one", maze.wouldPay(0), 0);
            gardenerDue(maze, 0, 1, 1);
            accountDue(maze, 3, 1);
            accountDue(maze, 4, 1);
        });
        term("no bond would pay more than the gardener has.", () -> {
            MazeBonds maze = bonded(10, 10, 5);
            maze.rest(0, 3);
            due("less than the gardener has", maze.wouldPay(0), 15);
            maze.rest(0, 1);
            due("just what the gardener has", maze.wouldPay(0), 20);
            maze.rest(0, 1);
            due("more than the gardener has", maze.wouldPay(0), 20);
        });
    }
}
