import java.util.NoSuchElementException;

/** Counts the answers that are not due, and ends a test. */
final class Expect {
    interface Call {
        void run();
    }

    private static final int MOST_REPORTS = 40;

    private static int wrong = 0;
    private static int checked = 0;
    private static String heading = "";

    private Expect() {
    }

    /** Runs a test whose reports begin with its name; it has to look at one answer at least. */
    static void under(String name, Call test) {
        heading = name + ": ";
        int before = checked;
        try {
            test.run();
        } catch (RuntimeException thrown) {
            report("a call that is due to answer", "with " + thrown, "no exception");
        }
        if (checked == before) {
            report("the test", "no call", "one at least");
        }
        heading = "";
    }

    static void due(String what, long got, long want) {
        checked++;
        if (got != want) {
            report(what, Long.toString(got), Long.toString(want));
        }
    }

    static void due(String what, boolean got, boolean want) {
        due(what, got ? 1L : 0L, want ? 1L : 0L);
    }

    static void due(String what, String got, String want) {
        checked++;
        if (!got.equals(want)) {
            report(what, got, want);
        }
    }

    static void due(String what, double got, double want) {
        checked++;
        if (Double.compare(got, want) != 0) {
            report(what, Double.toString(got), Double.toString(want));
        }
    }

    /** The exact class counts: a class below the due one is wrong as well. */
    static void fails(String what, Class<? extends RuntimeException> kind, Call call) {
        due(what, outcome(call), kind.getSimpleName());
    }

    static void outOfBounds(String what, Call call) {
        fails(what, IndexOutOfBoundsException.class, call);
    }

    static void noSuch(String what, Call call) {
        fails(what, NoSuchElementException.class, call);
    }

    static void wrongArgument(String what, Call call) {
        fails(what, IllegalArgumentException.class, call);
    }

    static void wrongState(String what, Call call) {
        fails(what, IllegalStateException.class, call);
    }

    static void refused(MazeBonds maze, int reason, int detail, String what, Call call) {
        refusedAt(maze, 0, reason, detail, what, call);
    }

    static void refusedAt(MazeBonds maze, int command, int reason, int detail, String what, Call call) {
        fails(what, UnsupportedOperationException.class, call);
        String got = maze.reason(0) + "," + maze.reason(1) + "," + maze.reason(2);
        due(what + " keeps its reason", got, reason + "," + detail + "," + command);
    }

    static String outcome(Call call) {
        try {
            call.run();
        } catch (RuntimeException thrown) {
            return thrown.getClass().getSimpleName();
        }
        return "nothing";
    }

    static void append(MazeBonds maze, String signs) {
        for (int i = 0; i < signs.length(); i++) {
            maze.append(signs.charAt(i));
        }
    }

    static int commands(MazeBonds maze, String signs) {
        append(maze, signs);
        return maze.commands();
    }

    /** Reads the line that was written last. */
    static String written(MazeBonds maze, int length) {
        StringBuilder line = new StringBuilder();
        for (int i = 0; i < length; i++) {
            line.append(maze.character(i));
        }
        outOfBounds("character(length)", () -> maze.character(length));
        return line.toString();
    }

    private static void report(String what, String got, String want) {
        wrong++;
        if (wrong > MOST_REPORTS) {
            return;
        }
        System.out.println(heading + what + " answered " + got + ", due is " + want);
    }

    static void end() {
        System.out.println(checked + " answers checked, " + wrong + " not as due");
        if (wrong != 0 || checked == 0) {
            System.exit(1);
        }
    }
}
