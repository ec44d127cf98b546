/** The text buffer, commands, faults, reasons and the line: promises 28 to 31 and 34. */
public final class TextTest {
    public static void main(String[] args) {
        promise28Append();
        promise29Commands();
        promise29EachCommand();
        promise29Refused();
        promise29RefusedLeavesAllAsBefore();
        promise29Longest();
        promise30FaultPosition();
        promise30Faults();
        promise30Sound();
        promise31Reason();
        promise34Character();
        Expect.end();
    }

    private static void promise28Append() {
        MazeBonds maze = new MazeBonds();
        for (int length = 1; length <= 60; length++) {
            Expect.due("append", maze.append((char) (length * 7)), length);
        }
        Expect.wrongState("append to 60 characters", () -> maze.append('s'));
        Expect.due("characters in the buffer", maze.account(11), 60);
        Expect.wrongArgument("commands of no text", () -> maze.commands());
        Expect.due("the buffer is empty then", maze.account(11), 0);
        Expect.due("append after commands", maze.append('s'), 1);
        Expect.due("append is no change", maze.account(10), 0);
    }

    private static void promise29Commands() {
        MazeBonds maze = new MazeBonds();
        Expect.due("commands", Expect.commands(maze, "g20;v9;b0>0*2;h0-1=5;w0s;r0+9;m5;w0e;mx;s"), 10);
        Expect.due("line", Expect.written(maze, maze.line(0)), "5+11#0*2!");
        Expect.due("one change for all", maze.account(10), 1);
        Expect.due("the buffer is empty", maze.account(11), 0);
        Expect.due("a summer went by", maze.account(6), 1);
        Expect.due("undo of all", maze.undo(), 0);
        Expect.due("no gardeners", maze.account(0), 0);
        Expect.due("no visitors", maze.account(1), 0);
        Expect.due("no leaves", maze.leaves(0, 1), 0);
        Expect.due("the line stays", Expect.written(maze, 9), "5+11#0*2!");
    }

    private static void promise29EachCommand() {
        MazeBonds maze = new MazeBonds();
        Expect.due("h", Expect.commands(maze, "h14-10=7;h00-04=9"), 2);
        Expect.due("h: leaves", maze.leaves(10, 14) * 10 + maze.leaves(0, 4), 79);
        Expect.due("s", Expect.commands(maze, "s"), 1);
        Expect.due("s: leaves", maze.leaves(10, 14) * 10 + maze.leaves(0, 1), 81);
        Expect.due("g", Expect.commands(maze, "g7;g07;g99;g0"), 4);
        Expect.due("g: coins", maze.account(7), 113);
        Expect.due("v", Expect.commands(maze, "v5;v50;v0"), 3);
        Expect.due("v: coins", maze.visitorOf(0, 0) * 100 + maze.visitorOf(1, 0), 550);
        Expect.due("t", Expect.commands(maze, "t2:10-14;t0:0-4"), 2);
        Expect.due("t: coins", maze.gardenerOf(2, 0) * 10 + maze.gardenerOf(0, 0), 975);
        Expect.due("b", Expect.commands(maze, "b1>0*2"), 1);
        Expect.due("b: giver and rate", maze.visitorOf(0, 5) * 10 + maze.visitorOf(0, 6), 12);
        Expect.due("w", Expect.commands(maze, "w1e;w1s;w1w;w1n;w1e;w1s;w1s;w1w"), 8);
        Expect.due("w: the cell", maze.visitorOf(1, 1), 8);
        Expect.due("r", Expect.commands(maze, "r2+4;r0+9"), 2);
        Expect.due("r: hours", maze.visitorOf(2, 2) * 10 + maze.visitorOf(0, 2), 49);
        Expect.due("m", Expect.commands(maze, "m15;m0"), 2);
        Expect.due("m: void", maze.visitorOf(0, 7), 1);
        Expect.due("mx", Expect.commands(maze, "mx"), 1);
        Expect.refused(maze, 3, -1, "mx takes him away", () -> maze.minotaur(-1));
    }

    private static void refusedAt(int command, int reason, int detail, String text) {
        MazeBonds maze = new MazeBonds();
        Expect.append(maze, text);
        Expect.refusedAt(maze, command, reason, detail, text, () -> maze.commands());
        Expect.due(text + " has no fault", maze.faultPosition(), -1);
        Expect.due(text + " leaves the buffer empty", maze.account(11), 0);
    }

    private static void promise29Refused() {
        refusedAt(0, 1, 0, "h0-16=5");
        refusedAt(0, 2, 5, "h0-5=5");
        refusedAt(0, 3, 0, "h0-1=0");
        refusedAt(1, 4, 0, "s;t0:0-1");
        refusedAt(2, 5, 1, "g1;v1;b0>0*1");
        refusedAt(2, 5, 2, "g0;h0-1=5;t0:0-1");
        refusedAt(2, 6, 1, "h0-1=5;h0-4=5;v1");
        refusedAt(1, 7, 0, "s;w9n");
        refusedAt(3, 8, 0, "g1;v9;b0>0*1;b0>0*1");
        refusedAt(7, 9, 6, "v1;w0e;w0e;w0e;w0s;w0s;w0s;r0+1");
        refusedAt(3, 10, 0, "m0;g1;v9;b0>0*5");
        refusedAt(1, 11, 0, "v0;w0n");
        refusedAt(2, 12, 8, "h0-1=8;v0;w0e");
        refusedAt(4, 13, 4, "g1;g1;g1;g1;g1;g1");
        refusedAt(5, 13, 5, "v1;v1;v1;v1;v1;v1");
        refusedAt(1, 1, 0, "v1;r0+0");
        refusedAt(2, 1, 0, "v1;g1;b0>0*0");
        refusedAt(1, 1, 0, "s;m16");
        refusedAt(0, 1, 0, "m99");
        refusedAt(0, 3, -1, "mx");
    }

    private static void promise29RefusedLeavesAllAsBefore() {
        MazeBonds maze = new MazeBonds();
        Expect.commands(maze, "g20;v20;b0>0*1;h1-2=4");
        Expect.append(maze, "s;g5;v5;b1>1*1;w0e;r0+5;t0:1-2;m0;m1;w2n");
        Expect.refusedAt(maze, 9, 7, 2, "a late refusal", () -> maze.commands());
        int[] accounts = {1, 1, 0, 1, 0, 24, 0, 40, 0, 40, 1, 0};
        for (int what = 0; what < accounts.length; what++) {
            Expect.due("account " + what + " as before", maze.account(what), accounts[what]);
        }
        int[] numbers = {18, 0, 0, 6, 0, 0, 1, 0, 0};
        for (int what = 0; what < numbers.length; what++) {
            Expect.due("visitorOf " + what + " as before", maze.visitorOf(0, what), numbers[what]);
        }
        Expect.due("leaves as before", maze.leaves(1, 2), 4);
        Expect.due("the gardener's coins as before", maze.gardenerOf(0, 0), 22);
        Expect.refused(maze, 3, -1, "no minotaur as before", () -> maze.minotaur(-1));
        Expect.due("undo goes before the commands", maze.undo(), 0);
        Expect.due("nobody is there", maze.account(1), 0);
    }

    private static void promise29Longest() {
        MazeBonds maze = new MazeBonds();
        String summers = "s;".repeat(29) + "s";
        Expect.due("30 commands", Expect.commands(maze, summers), 30);
        Expect.due("30 summers", maze.account(6), 30);
        faultAt(60, summers + ";");
        faultAt(59, summers + "s");
        faultAt(59, "s;".repeat(29) + "sx");
        faultAt(60, "s;".repeat(29) + "w0");
    }

    private static void faultAt(int position, String text) {
        MazeBonds maze = new MazeBonds();
        Expect.append(maze, text);
        Expect.wrongArgument("commands of '" + text + "'", () -> maze.commands());
        Expect.due("fault of '" + text + "'", maze.faultPosition(), position);
        Expect.due("the buffer of '" + text + "' is empty then", maze.account(11), 0);
        Expect.due("nothing of '" + text + "' is carried out", maze.account(6) + maze.account(10), 0);
        Expect.noSuch("a fault of '" + text + "' is no reason", () -> maze.reason(0));
    }

    private static void promise30FaultPosition() {
        MazeBonds maze = new MazeBonds();
        Expect.due("no call of commands", maze.faultPosition(), -1);
        Expect.append(maze, "s;q");
        Expect.due("not called yet", maze.faultPosition(), -1);
        Expect.wrongArgument("s;q", () -> maze.commands());
        Expect.due("s;q", maze.faultPosition(), 2);
        Expect.append(maze, "s");
        maze.summer();
        maze.undo();
        maze.save();
        maze.restore();
        Expect.due("it stays", maze.faultPosition(), 2);
        Expect.due("s", maze.commands(), 1);
        Expect.due("a text without a fault", maze.faultPosition(), -1);
        Expect.append(maze, "");
        Expect.wrongArgument("the empty text", () -> maze.commands());
        Expect.due("the empty text ends too early", maze.faultPosition(), 0);
        Expect.append(maze, "w0n");
        Expect.refusedAt(maze, 0, 7, 0, "w0n", () -> maze.commands());
        Expect.due("a refused text has no fault", maze.faultPosition(), -1);
    }

    private static void promise30Faults() {
        String[] early = {"", "h", "h1", "h12", "h1-", "h1-2", "h1-12", "h1-2=", "t", "t0", "t0:", "t0:1", "t0:1-",
            "m", "g", "v", "b", "b0", "b0>", "b0>0", "b0>0*", "w", "w0", "r", "r0", "r0+", "s;", "g1;", "mx;", "m1;",
            "w0n;h", "s;s;"};
        for (String text : early) {
            faultAt(text.length(), text);
        }
        String[] lastIsWrong = {";", "x", "S", "0", " ", "s ", "ss", "s;;", "s;0", "h-", "hx", "h123", "h1=", "h1--",
            "h1-x", "h1-123", "h1-2-", "h1-2=x", "h1-2=10", "h12-1;", "tx", "t00", "t0-", "t0:x", "t0:123", "t0:1-123",
            "t0:1-1=", "mn", "mxx", "mx1", "m1x", "m123", "m-", "gx", "g-", "g100", "vx", "v123", "v1-", "bx", "b00",
            "b0>x", "b0>00", "b0>0>", "b0>0*x", "b0>0*10", "wn", "w00", "w0x", "w0N", "w0nn", "rx", "r00", "r0-",
            "r0+x", "r0+10", "h/", "h:", "g:", "g/", "w:", "r0+:", "r0+/", "s,", "g1,"};
        for (String text : lastIsWrong) {
            faultAt(text.length() - 1, text);
            faultAt(text.length() - 1, text + "s;");
        }
        faultAt(0, String.valueOf((char) 65535));
        faultAt(1, String.valueOf(new char[] {'s', 0}));
        faultAt(2, String.valueOf(new char[] {'g', '1', (char) 0x0661}));
        faultAt(1, String.valueOf(new char[] {'g', (char) 0x0661}));
    }

    private static void promise30Sound() {
        for (String text : new String[] {"s", "g0", "g00", "v9", "v09", "m0", "m09", "h00-01=9", "h1-02=5"}) {
            MazeBonds maze = new MazeBonds();
            Expect.due(text, Expect.commands(maze, text), 1);
            Expect.due("fault of " + text, maze.faultPosition(), -1);
        }
    }

    private static void promise31Reason() {
        MazeBonds maze = new MazeBonds();
        Expect.noSuch("nothing was refused", () -> maze.reason(0));
        Expect.noSuch("nothing was refused", () -> maze.reason(2));
        Expect.wrongArgument("what comes ahead", () -> maze.reason(3));
        Expect.wrongArgument("what comes ahead", () -> maze.reason(-1));
        Expect.append(maze, "s;h5-7=1");
        Expect.refusedAt(maze, 1, 2, 7, "h5-7=1", () -> maze.commands());
        maze.summer();
        maze.undo();
        maze.save();
        maze.restore();
        Expect.due("the reason stays", maze.reason(0), 2);
        Expect.due("its detail stays", maze.reason(1), 7);
        Expect.due("its index stays", maze.reason(2), 1);
        Expect.noSuch("leaves(0, 2)", () -> maze.leaves(0, 2));
        Expect.due("other exceptions keep no reason", maze.reason(1), 7);
        Expect.refused(maze, 3, 0, "another call", () -> maze.hedge(0, 1, 0));
        Expect.refused(maze, 1, 0, "a reason without a detail", () -> maze.minotaur(77));
        Expect.wrongArgument("reason(3)", () -> maze.reason(3));
        Expect.wrongArgument("reason(-1)", () -> maze.reason(-1));
    }

    private static void promise34Character() {
        MazeBonds maze = new MazeBonds();
        Expect.outOfBounds("the line is empty at first", () -> maze.character(0));
        Expect.due("row(2)", maze.row(2), 7);
        Expect.due("character(0)", maze.character(0), '0');
        Expect.due("character(1)", maze.character(1), ' ');
        Expect.due("character(6)", maze.character(6), '0');
        Expect.outOfBounds("character(7)", () -> maze.character(7));
        Expect.outOfBounds("character(-1)", () -> maze.character(-1));
        maze.visitor(1);
        Expect.due("line(0)", maze.line(0), 3);
        Expect.due("the line before is gone", Expect.written(maze, 3), "0+0");
        maze.save();
        maze.walk(0, 1);
        maze.undo();
        maze.restore();
        Expect.due("undo and restore leave the line", Expect.written(maze, 3), "0+0");
    }
}
