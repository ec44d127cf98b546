/** Long runs of calls, the same on MazeBonds and on PlainMaze: all answers have to be the same. */
public final class ModelTest {
    private interface Answer {
        double get();
    }

    private static final int RUNS = 1500;
    // An object is used for so many calls; a step takes at most MOST_AT_ONCE of them.
    private static final int CALLS = 512;
    private static final int MOST_AT_ONCE = 12;
    private static final String SIGNS = "hstmgvbwr0123456789-=:;>*+xnesw";

    private long seed;
    private MazeBonds maze;
    private PlainMaze plain;
    private int calls;
    private String waiting = "";

    public static void main(String[] args) {
        ModelTest test = new ModelTest();
        for (int run = 0; run < RUNS; run++) {
            test.oneRun(run);
        }
        Expect.end();
    }

    private void oneRun(int run) {
        seed = run * 7919L + 17;
        maze = new MazeBonds();
        plain = new PlainMaze();
        waiting = "";
        calls = 0;
        if (run % 8 > 0) {
            open(run % 3);
        }
        int quiet = run % 4;
        int steps = 0;
        while (calls + MOST_AT_ONCE <= CALLS && steps < 2 * CALLS) {
            steps++;
            if (!waiting.isEmpty()) {
                appendOne();
            } else if (below(4) < quiet) {
                ask();
            } else {
                act();
            }
        }
    }

    /** Begins with people, bonds and hedges, the more of them the denser, lest most calls be refused. */
    private void open(int density) {
        change('g', below(20));
        change('g', below(20));
        for (int visitor = 0; visitor < 3; visitor++) {
            change('v', below(20));
            change('b', below(2), visitor, 1 + below(5));
            change('r', visitor, 1 + below(9));
        }
        for (int cell = 0; cell < 16; cell++) {
            if (below(3) < density) {
                change('h', cell, cell + 1, 3 + below(5));
            }
            if (below(3) < density) {
                change('h', cell, cell + 4, 3 + below(5));
            }
        }
    }

    /** A small generator of its own, so that each run is the same on every machine. */
    private int below(int bound) {
        seed = seed * 6364136223846793005L + 1442695040888963407L;
        return (int) ((seed >>> 33) % bound);
    }

    private int cell() {
        int roll = below(40);
        return roll == 0 ? -1 : roll == 1 ? 16 : below(16);
    }

    private int beside(int cell) {
        int roll = below(30);
        if (roll == 0) {
            return cell();
        }
        return cell + new int[] {-4, 1, 4, -1}[roll % 4];
    }

    /** Mostly a number from least to most, now and then one beyond. */
    private int about(int least, int most) {
        int roll = below(30);
        return roll == 0 ? least - 1 : roll == 1 ? most + 1 : least + below(most - least + 1);
    }

    private int gardener() {
        return below(12) == 0 ? about(0, 4) : below(2);
    }

    private int visitor() {
        return below(12) == 0 ? about(0, 5) : below(3);
    }

    private int leafCount() {
        return below(3) == 0 ? about(0, 9) : 3 + below(3);
    }

    private void act() {
        int one = cell();
        int other = beside(one);
        switch (below(22)) {
            case 0: case 1: change('h', one, other, leafCount()); break;
            case 2: if (below(4) == 0) { change('s'); } break;
            case 3: change('t', gardener(), one, other); break;
            case 4: change('m', below(3) == 0 ? -1 : about(-1, 15)); break;
            case 5: change('g', below(4) == 0 ? about(0, 99) : below(5)); break;
            case 6: case 7: change('v', below(4) == 0 ? about(0, 99) : below(12)); break;
            case 8: case 9: change('b', gardener(), visitor(), about(1, 5)); break;
            case 10: case 11: case 12: case 13: change('w', visitor(), about(0, 3)); break;
            case 14: case 15: case 16: walkOn(); break;
            case 17: change('r', visitor(), about(1, 9)); break;
            case 18: if (below(3) == 0) { compare("undo()", () -> maze.undo(), () -> plain.undo()); } break;
            case 19: if (below(8) == 0) { compare("save()", () -> maze.save(), () -> plain.save()); } break;
            case 20: if (below(8) == 0) { compare("restore()", () -> maze.restore(), () -> plain.restore()); } break;
            default: waiting = text(); break;
        }
    }

    /** Walks towards the exit, or else visitors would hardly come out. */
    private void walkOn() {
        int visitor = visitor();
        try {
            int cell = plain.visitorOf(visitor, 1);
            int next = plain.next(cell);
            change('w', visitor, next == cell - 4 ? 0 : next == cell + 1 ? 1 : next == cell + 4 ? 2 : 3);
        } catch (RuntimeException nowhere) {
            change('w', visitor, below(4));
        }
    }

    private void change(char kind, int... n) {
        StringBuilder name = new StringBuilder().append(kind);
        for (int number : n) {
            name.append(' ').append(number);
        }
        compare(name.toString(), () -> changeMaze(kind, n), () -> plain.change(kind, n));
    }

    private int changeMaze(char kind, int... n) {
        switch (kind) {
            case 'h': return maze.hedge(n[0], n[1], n[2]);
            case 's': return maze.summer();
            case 't': return maze.trim(n[0], n[1], n[2]);
            case 'm': return maze.minotaur(n[0]);
            case 'g': return maze.gardener(n[0]);
            case 'v': return maze.visitor(n[0]);
            case 'b': return maze.bond(n[0], n[1], n[2]);
            case 'w': return maze.walk(n[0], n[1]);
            default: return maze.rest(n[0], n[1]);
        }
    }

    private String text() {
        StringBuilder text = new StringBuilder();
        int count = 1 + below(9);
        for (int i = 0; i < count; i++) {
            text.append(i > 0 ? ";" : "").append(command());
        }
        if (below(4) == 0) {
            text.insert(below(text.length() + 1), SIGNS.charAt(below(SIGNS.length())));
        }
        if (below(8) == 0) {
            text.deleteCharAt(below(text.length()));
        }
        if (below(8) == 0) {
            text.setLength(below(text.length() + 1));
        }
        return text.append('!').toString();
    }

    private String command() {
        int one = below(16);
        int other = Math.max(0, beside(one));
        String digits = below(5) == 0 ? "0" : "";
        String first = one < 10 ? digits + one : "" + one;
        switch (below(10)) {
            case 0: return "h" + first + "-" + other + "=" + below(10);
            case 1: return below(4) == 0 ? "s" : "w" + below(2) + "e";
            case 2: return "t" + below(2) + ":" + first + "-" + other;
            case 3: return below(3) == 0 ? "mx" : "m" + below(18);
            case 4: return "g" + first;
            case 5: return "v" + below(12);
            case 6: return "b" + below(2) + ">" + below(3) + "*" + (below(6) == 0 ? below(10) : 1 + below(3));
            case 7: case 8: return "w" + below(3) + "nesw".charAt(below(4));
            default: return "r" + below(3) + "+" + below(10);
        }
    }

    /** The sign "!" ends what is waiting: then the commands are carried out. */
    private void appendOne() {
        char sign = waiting.charAt(0);
        waiting = waiting.substring(1);
        if (sign == '!') {
            compare("commands()", () -> maze.commands(), () -> plain.commands());
        } else {
            compare("append " + sign, () -> maze.append(sign), () -> plain.append(sign));
        }
    }

    private void ask() {
        int one = cell();
        int other = beside(one);
        switch (below(7)) {
            case 0: askMaze(one, other); break;
            case 1: case 2: askWays(one, other); break;
            case 3: case 4: askPeople(); break;
            case 5: askTexts(); break;
            default: askAccounts(); break;
        }
    }

    private void askMaze(int one, int other) {
        compare("leaves", () -> maze.leaves(one, other), () -> plain.leaves(one, other));
        compare("isGap", () -> maze.isGap(one, other) ? 1 : 0, () -> plain.isGap(one, other) ? 1 : 0);
        compare("closesIn", () -> maze.closesIn(one, other), () -> plain.closesIn(one, other));
        compare("summersLeft", () -> maze.summersLeft(), () -> plain.summersLeft());
    }

    private void askWays(int one, int other) {
        int to = cell();
        compare("hours", () -> maze.hours(one, to), () -> plain.hours(one, to));
        compare("hoursAgain", () -> maze.hoursAgain(to, one), () -> plain.hours(to, one));
        compare("next", () -> maze.next(one), () -> plain.next(one));
        compare("reached", () -> maze.reached(one), () -> plain.reached(one));
        compare("trims", () -> maze.trims(one), () -> plain.trims(one));
        compare("trimsAgain", () -> maze.trimsAgain(one), () -> plain.trims(one));
        compare("isNeeded", () -> maze.isNeeded(one, other) ? 1 : 0, () -> plain.isNeeded(one, other) ? 1 : 0);
    }

    private void askPeople() {
        int gardener = gardener();
        int visitor = visitor();
        int ofGardener = about(0, 4);
        int ofVisitor = about(0, 8);
        int measure = about(0, 3);
        int place = about(0, 4);
        compare("gardenerOf", () -> maze.gardenerOf(gardener, ofGardener),
            () -> plain.gardenerOf(gardener, ofGardener));
        compare("visitorOf", () -> maze.visitorOf(visitor, ofVisitor), () -> plain.visitorOf(visitor, ofVisitor));
        compare("wouldPay", () -> maze.wouldPay(visitor), () -> plain.wouldPay(visitor));
        compare("owed", () -> maze.owed(gardener), () -> plain.owed(gardener));
        compare("ranked", () -> maze.ranked(measure, place), () -> plain.ranked(measure, place));
        compare("richest", () -> maze.richest(place), () -> plain.richest(place));
    }

    private void askTexts() {
        int what = about(0, 2);
        int index = about(0, 9);
        compare("faultPosition", () -> maze.faultPosition(), () -> plain.faultPosition());
        compare("reason", () -> maze.reason(what), () -> plain.reason(what));
        compare("character", () -> maze.character(index), () -> plain.character(index));
        if (below(2) == 0) {
            int visitor = visitor();
            compare("line", () -> maze.line(visitor), () -> plain.line(visitor));
        } else {
            int row = about(0, 3);
            compare("row", () -> maze.row(row), () -> plain.row(row));
        }
    }

    private void askAccounts() {
        int what = about(0, 11);
        compare("meanLost", () -> maze.meanLost(), () -> plain.meanLost());
        compare("gapShare", () -> maze.gapShare(), () -> plain.gapShare());
        compare("account", () -> maze.account(what), () -> plain.account(what));
    }

    private void compare(String call, Answer got, Answer want) {
        calls++;
        String due = outcome(want);
        Expect.due("call " + calls + ": " + call, outcome(got), due);
        if (due.equals("UnsupportedOperationException")) {
            calls += 3;
            String kept = plain.reason(0) + "," + plain.reason(1) + "," + plain.reason(2);
            String seen = maze.reason(0) + "," + maze.reason(1) + "," + maze.reason(2);
            Expect.due("call " + calls + ": the reason against " + call, seen, kept);
        }
    }

    private static String outcome(Answer call) {
        try {
            return Double.toString(call.get());
        } catch (PlainMaze.Refused refused) {
            return "UnsupportedOperationException";
        } catch (RuntimeException thrown) {
            return thrown.getClass().getSimpleName();
        }
    }
}
