/** The boundaries that the terms name of exceptions: what they leave, and which one comes first. */
final class FailureBoundaries extends Boundary {
    private static final String UNCHANGED = "A call that throws an exception leaves the state unchanged,";

    private interface Step {
        void take(MazeBonds maze);
    }

    private interface Maker {
        MazeBonds make();
    }

    private FailureBoundaries() {
    }

    static void all() {
        refusedChanges();
        refusedPeople();
        refusedInCrowds();
        failedQuestions();
        failedPeople();
        failedTexts();
        unlessStated();
        listedFirst();
    }

    /** Two gardeners, two visitors, one of them out, a void bond, a snapshot, a fault, a reason, a text, a line. */
    static MazeBonds busy() {
        MazeBonds maze = people(20, 20);
        maze.gardener(1);
        maze.visitor(30);
        maze.bond(0, 0, 3);
        maze.hedge(0, 1, 6);
        walkAll(maze, 1, SOUTH, SOUTH, SOUTH, EAST, EAST, EAST);
        maze.summer();
        maze.hedge(5, 6, 0);
        maze.save();
        maze.minotaur(0);
        maze.rest(0, 9);
        Expect.outcome(() -> Expect.commands(maze, "s;x"));
        Expect.outcome(() -> maze.hedge(3, 4, 1));
        Expect.append(maze, "s;m");
        maze.line(0);
        return maze;
    }

    /** Four gardeners, a bond, no way to the exit, and a buffer that is full. */
    private static MazeBonds enclosed() {
        MazeBonds maze = bonded(9, 9, 1);
        for (int gardener = 1; gardener < 4; gardener++) {
            maze.gardener(0);
        }
        maze.save();
        summers(maze, 5);
        maze.append('m');
        Expect.append(maze, "s".repeat(59));
        maze.row(1);
        return maze;
    }

    /** Five visitors without coins, four of them where the minotaur is. */
    private static MazeBonds crowded() {
        MazeBonds maze = withVisitors(0);
        maze.gardener(9);
        for (int visitor = 0; visitor < 5; visitor++) {
            maze.visitor(1);
        }
        maze.walk(1, EAST);
        maze.minotaur(0);
        maze.save();
        maze.append('g');
        maze.row(0);
        return maze;
    }

    private static MazeBonds fresh() {
        MazeBonds maze = new MazeBonds();
        maze.append('h');
        return maze;
    }

    private static void unchangedDue(Maker maker, boolean isRefusal, Step... calls) {
        for (int call = 0; call < calls.length; call++) {
            Step step = calls[call];
            MazeBonds called = maker.make();
            MazeBonds spared = maker.make();
            String outcome = Expect.outcome(() -> step.take(called));
            String name = "call " + call + " with " + outcome;
            due(name + " throws", outcome.equals("nothing"), false);
            due(name + " is refused", outcome.equals("UnsupportedOperationException"), isRefusal);
            if (!isRefusal) {
                due(name + ": the reason", Whole.reason(called), Whole.reason(spared));
            }
            sameDue(name, called, spared);
        }
    }

    /** The same in all that is seen now, after an undo, after the commands, and after restore. */
    private static void sameDue(String name, MazeBonds called, MazeBonds spared) {
        due(name + ": what is beside", Whole.beside(called), Whole.beside(spared));
        due(name + ": what is seen", Whole.seen(called), Whole.seen(spared));
        due(name + ": undo", Expect.outcome(() -> called.undo()), Expect.outcome(() -> spared.undo()));
        due(name + ": what was before", Whole.seen(called), Whole.seen(spared));
        due(name + ": commands", Expect.outcome(() -> called.commands()), Expect.outcome(() -> spared.commands()));
        due(name + ": the text's fault", called.faultPosition(), spared.faultPosition());
        due(name + ": restore", Expect.outcome(() -> called.restore()), Expect.outcome(() -> spared.restore()));
        due(name + ": what was saved", Whole.seen(called), Whole.seen(spared));
    }

    private static void refusedChanges() {
        term(UNCHANGED, () -> unchangedDue(FailureBoundaries::busy, true,
            maze -> maze.hedge(16, 15, 1), maze -> maze.hedge(0, -1, 1), maze -> maze.hedge(0, 1, 10),
            maze -> maze.hedge(0, 2, 1), maze -> maze.hedge(0, 1, 7), maze -> maze.trim(2, 0, 1),
            maze -> maze.trim(0, 16, 15), maze -> maze.trim(0, 0, 2), maze -> maze.trim(0, 5, 6),
            maze -> maze.trim(1, 0, 1), maze -> maze.minotaur(16), maze -> maze.minotaur(-2),
            maze -> maze.minotaur(0)));
    }

    private static void refusedPeople() {
        term(UNCHANGED, () -> unchangedDue(FailureBoundaries::busy, true,
            maze -> maze.gardener(100), maze -> maze.gardener(-1), maze -> maze.visitor(100), maze -> maze.visitor(-1),
            maze -> maze.bond(2, 0, 1), maze -> maze.bond(0, 2, 1), maze -> maze.bond(0, 0, 6), maze -> maze.bond(0, 1, 1),
            maze -> maze.bond(1, 0, 1), maze -> maze.walk(2, 0), maze -> maze.walk(0, 4), maze -> maze.walk(1, NORTH),
            maze -> maze.walk(0, NORTH), maze -> maze.walk(0, EAST), maze -> maze.rest(2, 1), maze -> maze.rest(0, 0),
            maze -> maze.rest(0, 10), maze -> maze.rest(1, 1)));
    }

    private static void refusedInCrowds() {
        term(UNCHANGED, () -> {
            unchangedDue(FailureBoundaries::enclosed, true, maze -> maze.gardener(1), maze -> maze.visitor(1),
                maze -> maze.walk(0, SOUTH));
            unchangedDue(FailureBoundaries::crowded, true, maze -> maze.visitor(1), maze -> maze.bond(0, 0, 1),
                maze -> maze.bond(0, 1, 1));
            unchangedDue(FailureBoundaries::fresh, true, maze -> maze.minotaur(NONE), maze -> maze.hedge(0, 1, 0));
        });
    }

    private static void failedQuestions() {
        term(UNCHANGED, () -> {
            unchangedDue(FailureBoundaries::busy, false,
                maze -> maze.leaves(16, 0), maze -> maze.leaves(0, 2), maze -> maze.isGap(-1, 0), maze -> maze.hours(0, 16),
                maze -> maze.hoursAgain(16, 0), maze -> maze.next(16), maze -> maze.next(15), maze -> maze.reached(16),
                maze -> maze.trims(-1), maze -> maze.trimsAgain(16), maze -> maze.isNeeded(0, 16),
                maze -> maze.isNeeded(0, 2), maze -> maze.closesIn(0, 16), maze -> maze.closesIn(0, 2));
            unchangedDue(FailureBoundaries::enclosed, false, maze -> maze.hours(0, 15), maze -> maze.hoursAgain(0, 15),
                maze -> maze.next(0), maze -> maze.wouldPay(0));
        });
    }

    private static void failedPeople() {
        term(UNCHANGED, () -> unchangedDue(FailureBoundaries::busy, false,
            maze -> maze.gardenerOf(2, 0), maze -> maze.gardenerOf(0, 5), maze -> maze.visitorOf(2, 0),
            maze -> maze.visitorOf(0, 9), maze -> maze.wouldPay(2), maze -> maze.wouldPay(1), maze -> maze.owed(2),
            maze -> maze.ranked(4, 0), maze -> maze.ranked(0, 2), maze -> maze.richest(2), maze -> maze.reason(3),
            maze -> maze.line(2), maze -> maze.row(4), maze -> maze.character(99), maze -> maze.account(12)));
    }

    private static void failedTexts() {
        term(UNCHANGED, () -> {
            unchangedDue(FailureBoundaries::enclosed, false, maze -> maze.append('s'));
            unchangedDue(FailureBoundaries::fresh, false, maze -> maze.undo(), maze -> maze.restore(),
                maze -> maze.meanLost(), maze -> maze.reason(0), maze -> maze.line(0), maze -> maze.character(0));
        });
    }

    private static void unlessStated() {
        term("unless stated otherwise.", () -> {
            MazeBonds maze = busy();
            String line = Whole.line(maze);
            String reason = Whole.reason(maze);
            Expect.wrongArgument("a fault", () -> maze.commands());
            accountDue(maze, 11, 0);
            due("the fault position", maze.faultPosition(), 3);
            due("the reason as before", Whole.reason(maze), reason);
            Expect.append(maze, "s;w1n");
            Expect.refusedAt(maze, 1, 9, 6, "a refused command", () -> maze.commands());
            accountDue(maze, 11, 0);
            due("the fault position then", maze.faultPosition(), NONE);
            due("the line as before", Whole.line(maze), line);
            due("what is seen as before", Whole.seen(maze), Whole.seen(busy()));
            due("what was before, too", maze.undo(), 7);
            refused(maze, 2, 4, "the reason is kept", () -> maze.hedge(3, 4, 1));
        });
    }

    private static void listedFirst() {
        term("If several conditions of a method are fulfilled, the one that is listed first determines the exception.", () -> {
            MazeBonds maze = closed();
            Expect.outOfBounds("leaves: no cell, no neighbours", () -> maze.leaves(16, 16));
            Expect.outOfBounds("hours: no cell, no way", () -> maze.hours(0, 16));
            Expect.outOfBounds("hoursAgain: no cell, no way", () -> maze.hoursAgain(16, 0));
            Expect.outOfBounds("next: no cell, no way", () -> maze.next(16));
            Expect.outOfBounds("isNeeded: no cell, no neighbours", () -> maze.isNeeded(0, 16));
            Expect.outOfBounds("closesIn: no cell, no neighbours", () -> maze.closesIn(-1, 9));
            Expect.outOfBounds("gardenerOf: no gardener, no such number", () -> maze.gardenerOf(0, 5));
            Expect.outOfBounds("visitorOf: no visitor, no such number", () -> maze.visitorOf(0, 9));
            Expect.outOfBounds("wouldPay: no visitor, no way", () -> maze.wouldPay(0));
            Expect.wrongArgument("ranked: no measure, no place", () -> maze.ranked(4, 0));
            Expect.wrongArgument("reason: no such number, nothing refused", () -> maze.reason(3));
            Expect.append(maze, "w0n;x");
            Expect.wrongArgument("commands: a fault, a command to refuse", () -> maze.commands());
        });
    }
}
