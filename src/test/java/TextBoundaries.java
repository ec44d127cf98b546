/** The boundaries that the terms of texts and the promises 28 to 34 name: the buffer, commands and the line. */
final class TextBoundaries extends Boundary {
    private TextBoundaries() {
    }

    static void all() {
        oneOrMore();
        hedgeAndSummer();
        trim();
        minotaurAndPeople();
        bondWalkAndRest();
        digits();
        faultPosition();
        allOrNone();
        append();
        commands();
        commandsThrow();
        latestFault();
        reason();
        line();
        row();
        character();
    }

    private static void carriedOut(MazeBonds maze, String text, int want) {
        due("commands of '" + text + "'", Expect.commands(maze, text), want);
    }

    private static void oneOrMore() {
        term("The text buffer holds one or more commands with \";\" between them", () -> {
            faultDue("", 0);
            faultDue("s", -1);
            faultDue("s;s", -1);
            faultDue("s;".repeat(29) + "s", -1);
            faultDue(";", 0);
            faultDue("s;", 2);
            faultDue("s;;s", 2);
            faultDue("ss", 1);
            faultDue("s s", 1);
            faultDue("s,s", 1);
            faultDue("s:s", 1);
        });
    }

    private static void hedgeAndSummer() {
        term("\"h\", a cell, \"-\" and a cell, \"=\" and leaves tells the leaves of a hedge", () -> {
            MazeBonds maze = new MazeBonds();
            carriedOut(maze, "h0-1=9;h15-14=5;h3-07=1", 3);
            due("9", maze.leaves(0, 1), 9);
            due("5", maze.leaves(14, 15), 5);
            due("1", maze.leaves(3, 7), 1);
            carriedOut(maze, "h1-0=0", 1);
            due("0", maze.leaves(0, 1), 0);
            faultDue("h-1=1", 1);
            faultDue("h0=1", 2);
            faultDue("h0-=1", 3);
            faultDue("h0-1-1", 4);
            faultDue("h0-1=", 5);
            faultDue("h0-1=x", 5);
            faultDue("H0-1=1", 0);
        });
        term("\"s\" is a summer", () -> {
            MazeBonds maze = new MazeBonds();
            carriedOut(maze, "s;s", 2);
            accountDue(maze, 6, 2);
            due("the leaves", maze.leaves(0, 1), 2);
            faultDue("s0", 1);
            faultDue("S", 0);
        });
    }

    private static void trim() {
        term("\"t\", a gardener, \":\", a cell, \"-\" and a cell trims a hedge", () -> {
            MazeBonds maze = new MazeBonds();
            carriedOut(maze, "g2;g9;g9;g4;h0-1=9;h14-15=1;t0:0-1;t3:15-14", 8);
            gardenerDue(maze, 0, 0, 0);
            gardenerDue(maze, 3, 0, 2);
            due("the leaves", maze.leaves(0, 1) + maze.leaves(14, 15), 0);
            faultDue("t:0-1", 1);
            faultDue("t0-0-1", 2);
            faultDue("t0:-1", 3);
            faultDue("t0:0:1", 4);
            faultDue("t0:0-", 5);
            faultDue("t0:0-1=", 6);
        });
    }

    private static void minotaurAndPeople() {
        term("\"m\" and a cell, or \"m\" and \"x\", places the minotaur, or takes him away", () -> {
            MazeBonds maze = new MazeBonds();
            carriedOut(maze, "m0", 1);
            due("in the cell 0", rowOf(maze, 0), "M 0 0 0");
            carriedOut(maze, "m15", 1);
            due("in the cell 15", rowOf(maze, 3), "0 0 0 M");
            carriedOut(maze, "mx", 1);
            due("in none", rowOf(maze, 3), "0 0 0 0");
            faultDue("m", 1);
            faultDue("mX", 1);
            faultDue("m-1", 1);
            faultDue("mx0", 2);
            faultDue("m1x", 2);
        });
        term("\"g\" or \"v\" and a number lets a gardener or a visitor come with so many coins", () -> {
            MazeBonds maze = new MazeBonds();
            carriedOut(maze, "g0;g99;v0;v99", 4);
            gardenerDue(maze, 0, 0, 0);
            gardenerDue(maze, 1, 0, 99);
            visitorDue(maze, 0, 0, 0);
            visitorDue(maze, 1, 0, 99);
            faultDue("g", 1);
            faultDue("v", 1);
            faultDue("g-1", 1);
            faultDue("v100", 3);
            faultDue("g100", 3);
        });
    }

    private static void bondWalkAndRest() {
        term("\"b\", a gardener, \">\" and a visitor, \"*\" and a rate gives a bond", () -> {
            MazeBonds maze = new MazeBonds();
            carriedOut(maze, "g9;g9;g9;g9;v9;v9;v9;v9;v10;b0>0*1;b3>4*5", 11);
            visitorDue(maze, 0, 5, 0);
            visitorDue(maze, 0, 6, 1);
            visitorDue(maze, 4, 5, 3);
            visitorDue(maze, 4, 6, 5);
            faultDue("b>0*1", 1);
            faultDue("b0*0*1", 2);
            faultDue("b0>*1", 3);
            faultDue("b0>0>1", 4);
            faultDue("b0>0*", 5);
            faultDue("b0>0*1;", 7);
        });
        term("\"w\", a visitor, and \"n\", \"e\", \"s\" or \"w\" walks", () -> {
            MazeBonds maze = new MazeBonds();
            carriedOut(maze, "v0;w0s", 2);
            visitorDue(maze, 0, 1, 4);
            carriedOut(maze, "w0e", 1);
            visitorDue(maze, 0, 1, 5);
            carriedOut(maze, "w0n", 1);
            visitorDue(maze, 0, 1, 1);
            carriedOut(maze, "w0w", 1);
            visitorDue(maze, 0, 1, 0);
            faultDue("wn", 1);
            faultDue("w0", 2);
            faultDue("w0N", 2);
            faultDue("w00", 2);
            faultDue("w0ne", 3);
        });
        term("\"r\", a visitor, \"+\" and a digit rests.", () -> {
            MazeBonds maze = new MazeBonds();
            carriedOut(maze, "v0;r0+1;r0+9", 3);
            visitorDue(maze, 0, 2, 10);
            Expect.append(maze, "r0+0");
            Expect.refusedAt(maze, 0, 1, 0, "0 is a digit, but out of range", () -> maze.commands());
            faultDue("r+1", 1);
            faultDue("r0-1", 2);
            faultDue("r0+", 3);
            faultDue("r0+-", 3);
        });
    }

    private static void digits() {
        term("Cells and coins have one or two digits,", () -> {
            for (String sound : new String[] {"h0-1=1", "h00-1=1", "h0-01=1", "h10-14=1", "h99-99=1", "m0", "m00", "m99",
                "t0:0-1", "t0:00-01", "g0", "g00", "g99", "v0", "v00", "v99"}) {
                faultDue(sound, -1);
            }
            faultDue("h000-1=1", 3);
            faultDue("h0-001=1", 5);
            faultDue("t0:000-1", 5);
            faultDue("t0:0-001", 7);
            faultDue("m000", 3);
            faultDue("g000", 3);
            faultDue("v000", 3);
        });
        term("all else one.", () -> {
            faultDue("h0-1=00", 6);
            faultDue("t00:0-1", 2);
            faultDue("b00>0*1", 2);
            faultDue("b0>00*1", 4);
            faultDue("b0>0*01", 6);
            faultDue("w00n", 2);
            faultDue("r00+1", 2);
            faultDue("r0+01", 4);
            faultDue("r0+10", 4);
        });
    }

    private static void faultPosition() {
        term("The fault position of a text is the index of its first character that cannot continue such a text,", () -> {
            faultDue("x", 0);
            faultDue("0", 0);
            faultDue(" s", 0);
            faultDue("s;x;y", 2);
            faultDue("s;sx", 3);
            faultDue("s;".repeat(29) + "ss", 59);
            faultDue("s;".repeat(29) + "?s", 58);
            faultDue("g/", 1);
            faultDue("g:", 1);
            faultDue("g9/", 2);
            faultDue("g9:", 2);
            faultDue(String.valueOf(new char[] {'g', (char) 0}), 1);
            faultDue(String.valueOf(new char[] {'g', (char) 178}), 1);
            faultDue(String.valueOf(new char[] {(char) 255}), 0);
        });
        term("or the length of the text if it ends too early.", () -> {
            String[] early = {"", "h", "h1", "h10", "h1-", "h1-2", "h10-14", "h1-2=", "t", "t0", "t0:", "t0:1", "t0:1-", "m",
                "g", "v", "b", "b0", "b0>", "b0>0", "b0>0*", "w", "w0", "r", "r0", "r0+", "s;", "g9;", "mx;"};
            for (String text : early) {
                faultDue(text, text.length());
                faultDue("s;" + text, text.length() + 2);
            }
            faultDue("s;".repeat(30), 60);
            MazeBonds maze = new MazeBonds();
            String[] behindLonger = {"g12;s;s", "g", "g1;s", "g1;", "h0-1=1", "h0-", "s;w0n", "s;w"};
            for (int text = 0; text < behindLonger.length; text += 2) {
                Expect.append(maze, behindLonger[text]);
                Expect.outcome(() -> maze.commands());
                Expect.append(maze, behindLonger[text + 1]);
                Expect.wrongArgument("a text shorter than the one before", () -> maze.commands());
                due("its fault", maze.faultPosition(), behindLonger[text + 1].length());
            }
            faultDue("s;".repeat(29) + "w0", 60);
        });
    }

    private static void allOrNone() {
        term("The commands are carried out as the methods would,", () -> {
            MazeBonds texts = new MazeBonds();
            carriedOut(texts, "g20;v9;h0-1=4;s;b0>0*2;m4;w0s;r0+9;t0:0-1;mx", 10);
            MazeBonds calls = people(20, 9);
            calls.hedge(0, 1, 4);
            calls.summer();
            calls.bond(0, 0, 2);
            calls.minotaur(4);
            calls.walk(0, SOUTH);
            calls.rest(0, 9);
            calls.trim(0, 0, 1);
            calls.minotaur(NONE);
            due("all that is seen", Whole.seen(texts), Whole.seen(calls));
        });
        term("all of them or none.", () -> {
            MazeBonds maze = bonded(20, 20, 1);
            String before = Whole.seen(maze);
            int changes = maze.account(10);
            for (String text : new String[] {"h0-1=5;s;g9;v9;b1>1*1;t0:0-1;m0;w0s;r0+9;mx;mx", "s;w0n", "w0s;r0+0", "s;h0-2=1"}) {
                Expect.append(maze, text);
                Expect.fails(text, UnsupportedOperationException.class, () -> maze.commands());
                due("all that was seen before " + text, Whole.seen(maze), before);
                due("the changes", maze.account(10), changes);
            }
        });
    }

    private static void append() {
        promise(28, "Returns the new length of the buffer.", () -> {
            MazeBonds maze = new MazeBonds();
            for (int length = 1; length <= 60; length++) {
                due("append", maze.append('s'), length);
            }
            accountDue(maze, 11, 60);
            Expect.fails("a fault", IllegalArgumentException.class, () -> maze.commands());
            due("append to the empty buffer", maze.append('s'), 1);
        });
        promise(28, "Throws IllegalStateException if the buffer contains 60 characters", () -> {
            MazeBonds maze = new MazeBonds();
            Expect.append(maze, "s;".repeat(29) + "s");
            due("the 60th", maze.append(';'), 60);
            Expect.wrongState("the 61st", () -> maze.append('s'));
            Expect.wrongState("the 61st again", () -> maze.append('s'));
            accountDue(maze, 11, 60);
            Expect.wrongArgument("it is not in the text", () -> maze.commands());
            due("the text ends with the 60th", maze.faultPosition(), 60);
        });
    }

    private static void commands() {
        promise(29, "Returns the number of commands.", () -> {
            carriedOut(new MazeBonds(), "s", 1);
            carriedOut(new MazeBonds(), "g9;v9", 2);
            carriedOut(new MazeBonds(), "s;".repeat(29) + "s", 30);
        });
        promise(29, "Carries out the commands in the text buffer, one after the other", () -> {
            MazeBonds maze = new MazeBonds();
            carriedOut(maze, "m1;m0;v5;v7;w1e;m1;m2", 7);
            due("the row", rowOf(maze, 0), "1 1 M 0");
            visitorDue(maze, 1, 0, 7);
        });
        promise(29, "The buffer is empty afterwards, also if an exception is thrown.", () -> {
            MazeBonds maze = new MazeBonds();
            carriedOut(maze, "s", 1);
            accountDue(maze, 11, 0);
            Expect.append(maze, "s;x");
            Expect.wrongArgument("a fault", () -> maze.commands());
            accountDue(maze, 11, 0);
            Expect.append(maze, "s;w0n");
            Expect.fails("a refused command", UnsupportedOperationException.class, () -> maze.commands());
            accountDue(maze, 11, 0);
            Expect.wrongArgument("the empty text", () -> maze.commands());
            accountDue(maze, 11, 0);
            due("the next text begins anew", Expect.commands(maze, "s"), 1);
        });
    }

    private static void commandsThrow() {
        promise(29, "Throws IllegalArgumentException if the text has a fault", () -> {
            MazeBonds maze = new MazeBonds();
            Expect.wrongArgument("the empty text", () -> maze.commands());
            Expect.append(maze, "w0n;x");
            Expect.wrongArgument("a fault behind a command to refuse", () -> maze.commands());
            Expect.noSuch("nothing was refused", () -> maze.reason(0));
            Expect.append(maze, "s;s;");
            Expect.wrongArgument("a text that ends too early", () -> maze.commands());
            accountDue(maze, 6, 0);
            accountDue(maze, 10, 0);
        });
        promise(29, "Throws UnsupportedOperationException if a command is refused", () -> {
            MazeBonds maze = new MazeBonds();
            Expect.append(maze, "w0n");
            Expect.refusedAt(maze, 0, 7, 0, "the only one", () -> maze.commands());
            Expect.append(maze, "s;s;h16-0=1");
            Expect.refusedAt(maze, 2, 1, 0, "the last one", () -> maze.commands());
            Expect.append(maze, "h0-1=0;s;s");
            Expect.refusedAt(maze, 0, 3, 0, "the first one", () -> maze.commands());
            Expect.append(maze, "s;m99;mx");
            Expect.refusedAt(maze, 1, 1, 0, "the first of two", () -> maze.commands());
        });
        promise(29, "Throws UnsupportedOperationException if a command is refused", () -> {
            String[] refused = {"h0-1=0", "t0:0-1", "mx", "b0>0*6", "w0n", "w1e", "r0+0", "g9", "v9", "b0>1*1", "t4:0-1"};
            int[] reasons = {3, 3, 3, 1, 11, 9, 1, 13, 13, 9, 4};
            for (int command = 0; command < refused.length; command++) {
                MazeBonds maze = withVisitors(5);
                Expect.commands(maze, "g9;g9;g9;g9");
                walkOut(maze, 1);
                Expect.append(maze, "s;h0-1=0;" + refused[command]);
                Expect.fails(refused[command], UnsupportedOperationException.class, () -> maze.commands());
                due("the reason against " + refused[command], maze.reason(0), reasons[command]);
                accountDue(maze, 6, 0);
            }
        });
        promise(29, "the reason is kept", () -> {
            MazeBonds maze = new MazeBonds();
            Expect.append(maze, "s;h3-4=1");
            Expect.refusedAt(maze, 1, 2, 4, "no neighbours", () -> maze.commands());
            carriedOut(maze, "s", 1);
            due("after commands that are carried out", maze.reason(2), 1);
            Expect.append(maze, "x");
            Expect.wrongArgument("a fault", () -> maze.commands());
            due("after a fault", maze.reason(1), 4);
        });
        promise(29, "if one is refused, none is carried out.", () -> {
            MazeBonds maze = new MazeBonds();
            Expect.append(maze, "g9;s;h0-1=9;m3;v9;v9;v9;v9;v9;v9");
            Expect.refusedAt(maze, 9, 13, 5, "the sixth visitor", () -> maze.commands());
            for (int what = 0; what <= 11; what++) {
                accountDue(maze, what, what == 5 ? 24 : 0);
            }
            due("the leaves", maze.leaves(0, 1), 0);
            due("the row", rowOf(maze, 0), "0 0 0 0");
        });
    }

    private static void latestFault() {
        promise(30, "Returns the fault position, or -1 if that text had no fault or there was no such call.", () -> {
            MazeBonds maze = new MazeBonds();
            due("no such call", maze.faultPosition(), -1);
            Expect.append(maze, "x");
            due("no such call yet", maze.faultPosition(), -1);
            Expect.outcome(() -> maze.commands());
            due("a fault at 0", maze.faultPosition(), 0);
            carriedOut(maze, "s", 1);
            due("no fault", maze.faultPosition(), -1);
            Expect.append(maze, "w0n");
            Expect.outcome(() -> maze.commands());
            due("refused, but no fault", maze.faultPosition(), -1);
        });
        promise(30, "Returns the fault position of the text of the latest call of commands.", () -> {
            MazeBonds maze = new MazeBonds();
            Expect.append(maze, "s;s;x");
            Expect.outcome(() -> maze.commands());
            due("4", maze.faultPosition(), 4);
            Expect.append(maze, "sx");
            due("not called again yet", maze.faultPosition(), 4);
            Expect.outcome(() -> maze.commands());
            due("1", maze.faultPosition(), 1);
        });
    }

    private static void reason() {
        promise(31, "what: 0 for the reason, 1 for its detail, 2 for the index of the command", () -> {
            MazeBonds maze = new MazeBonds();
            Expect.append(maze, "s;s;s;w0n");
            Expect.fails("w0n", UnsupportedOperationException.class, () -> maze.commands());
            due("the reason", maze.reason(0), 7);
            due("no visitor is there", maze.reason(1), 0);
            due("the fourth command", maze.reason(2), 3);
            Expect.outcome(() -> maze.minotaur(NONE));
            due("a detail below 0", maze.reason(1), -1);
            due("the index of a call", maze.reason(2), 0);
        });
        promise(31, "Throws IllegalArgumentException if what is not from 0 to 2", () -> {
            MazeBonds maze = new MazeBonds();
            for (int what : new int[] {Integer.MIN_VALUE, -1, 3, Integer.MAX_VALUE}) {
                Expect.wrongArgument("it comes ahead of that nothing was refused", () -> maze.reason(what));
            }
            Expect.outcome(() -> maze.hedge(8, 7, 1));
            Expect.wrongArgument("what -1", () -> maze.reason(-1));
            Expect.wrongArgument("what 3", () -> maze.reason(3));
            due("what 0", maze.reason(0), 2);
            due("what 1", maze.reason(1), 8);
            due("what 2", maze.reason(2), 0);
        });
        promise(31, "Throws NoSuchElementException if nothing was refused", () -> {
            MazeBonds maze = new MazeBonds();
            for (int what = 0; what <= 2; what++) {
                int asked = what;
                Expect.noSuch("nothing was refused", () -> maze.reason(asked));
            }
            Expect.outcome(() -> maze.leaves(0, 2));
            Expect.outcome(() -> maze.undo());
            Expect.outcome(() -> maze.commands());
            maze.visitor(1);
            Expect.noSuch("other exceptions refuse nothing", () -> maze.reason(0));
        });
    }

    private static void line() {
        promise(32, "Writes a visitor, in place of the line before: the cell, or \"out\", \"+\" and the hours spent, and, with "
            + "a bond, \"#\" and its gardener, \"*\" and its rate, and \"!\" if it is void", () -> {
            MazeBonds maze = people(9, 20);
            maze.gardener(9);
            maze.visitor(20);
            due("without a bond", lineOf(maze, 0), "0+0");
            maze.bond(1, 0, 5);
            due("with a bond", lineOf(maze, 0), "0+0#1*5");
            due("of the other", lineOf(maze, 1), "0+0");
            maze.rest(0, 9);
            walkAll(maze, 0, SOUTH, SOUTH, EAST, EAST);
            maze.minotaur(10);
            due("two digits, void", lineOf(maze, 0), "10+13#1*5!");
            for (int rest = 0; rest < 10; rest++) {
                maze.rest(0, 9);
            }
            walkAll(maze, 0, SOUTH, EAST);
            due("out", lineOf(maze, 0), "out+105");
        });
        promise(32, "as in \"6+4#0*3!\".", () -> {
            MazeBonds maze = bonded(9, 20, 3);
            walkAll(maze, 0, EAST, SOUTH, EAST);
            maze.rest(0, 1);
            maze.minotaur(6);
            due("the length", maze.line(0), 8);
            due("the line", lineOf(maze, 0), "6+4#0*3!");
        });
        promise(32, "Returns the length of the line.", () -> {
            MazeBonds maze = bonded(9, 20, 1);
            due("with a bond", maze.line(0), 7);
            maze.minotaur(0);
            due("with a void bond", maze.line(0), 8);
            maze.minotaur(NONE);
            walkOut(maze, 0);
            due("out", maze.line(0), 5);
            Expect.outOfBounds("the line before was longer", () -> maze.character(5));
        });
    }

    private static void row() {
        promise(33, "Writes a row of the maze, in place of the line before: for each cell \"M\" if the minotaur is there, or "
            + "else how many visitors are in it, and between two of them \" \" for a gap, and \"|\" otherwise.", () -> {
            MazeBonds maze = withVisitors(5);
            due("all in the entrance", rowOf(maze, 0), "5 0 0 0");
            maze.hedge(0, 1, 4);
            maze.hedge(1, 2, 5);
            maze.hedge(2, 3, 9);
            maze.hedge(3, 7, 9);
            due("4, 5 and 9 leaves", rowOf(maze, 0), "5 0|0|0");
            walkAll(maze, 4, SOUTH, EAST);
            due("the row below", rowOf(maze, 1), "0 1 0 0");
            maze.minotaur(0);
            due("the minotaur among visitors", rowOf(maze, 0), "M 0|0|0");
            maze.minotaur(15);
            walkAll(maze, 4, SOUTH, SOUTH, EAST);
            due("beside the minotaur", rowOf(maze, 3), "0 0 1 M");
            due("no one", rowOf(maze, 2), "0 0 0 0");
        });
        promise(33, "Returns the length of the line.", () -> {
            MazeBonds maze = withVisitors(5);
            for (int row = 0; row < 4; row++) {
                due("the length", maze.row(row), 7);
            }
            Expect.outOfBounds("behind the line", () -> maze.character(7));
        });
        promise(33, "row: the row, 0 to 3", () -> {
            MazeBonds maze = new MazeBonds();
            for (int row = 0; row < 4; row++) {
                maze.minotaur(4 * row);
                due("the first cell of the row", rowOf(maze, row), "M 0 0 0");
                maze.minotaur(4 * row + 3);
                due("the last cell of the row", rowOf(maze, row), "0 0 0 M");
            }
        });
        promise(33, "Throws IllegalArgumentException if there is no such row", () -> {
            MazeBonds maze = new MazeBonds();
            for (int row : new int[] {Integer.MIN_VALUE, -1, 4, 1 << 30, Integer.MAX_VALUE}) {
                Expect.wrongArgument("the row " + row, () -> maze.row(row));
            }
            due("the row 3", maze.row(3), 7);
        });
    }

    private static void character() {
        promise(34, "Returns a character of the line, which is empty at first.", () -> {
            MazeBonds maze = withVisitors(1);
            Expect.outOfBounds("the empty line", () -> maze.character(0));
            maze.line(0);
            due("the first", maze.character(0), '0');
            due("the last", maze.character(2), '0');
            due("between them", maze.character(1), '+');
        });
        promise(34, "index: the index, from 0", () -> {
            MazeBonds maze = withVisitors(2);
            maze.hedge(0, 1, 5);
            maze.row(0);
            due("the index 0", maze.character(0), '2');
            due("the index 1", maze.character(1), '|');
            due("the index 2", maze.character(2), '0');
            due("the index 3", maze.character(3), ' ');
        });
        promise(34, "Throws IndexOutOfBoundsException if there is no such index", () -> {
            MazeBonds maze = withVisitors(1);
            maze.row(0);
            for (int index : new int[] {Integer.MIN_VALUE, -1, 7, Integer.MAX_VALUE}) {
                Expect.outOfBounds("the index " + index, () -> maze.character(index));
            }
            due("the last index", maze.character(6), '0');
            maze.line(0);
            Expect.outOfBounds("an index of the line before", () -> maze.character(3));
        });
    }
}
