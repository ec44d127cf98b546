/** Gardeners, visitors and bonds: promises 6 to 10, 22 to 27, 32 and 35. */
public final class PeopleTest {
    private static final int NORTH = 0;
    private static final int EAST = 1;
    private static final int SOUTH = 2;
    private static final int WEST = 3;

    public static void main(String[] args) {
        promise6Gardener();
        promise7Visitor();
        promise7VisitorRefused();
        promise8Bond();
        promise8BondRefused();
        promise9Walk();
        promise9WalkRefused();
        promise9ExitPays();
        promise9ExitPaysNoMoreThanThereIs();
        promise9ExitMeetsMinotaur();
        promise10Rest();
        promise22GardenerOf();
        promise23VisitorOf();
        promise24WouldPay();
        promise25Owed();
        promise26Ranked();
        promise27Richest();
        promise32Line();
        promise35MeanLost();
        Expect.end();
    }

    private static MazeBonds withPeople(int gardenerCoins, int visitorCoins) {
        MazeBonds maze = new MazeBonds();
        maze.gardener(gardenerCoins);
        maze.visitor(visitorCoins);
        return maze;
    }

    private static void walkAll(MazeBonds maze, int visitor, int... directions) {
        for (int direction : directions) {
            maze.walk(visitor, direction);
        }
    }

    private static void walkOut(MazeBonds maze, int visitor) {
        walkAll(maze, visitor, EAST, EAST, EAST, SOUTH, SOUTH, SOUTH);
    }

    private static void visitorDue(MazeBonds maze, int visitor, int... numbers) {
        for (int what = 0; what < numbers.length; what++) {
            Expect.due("visitorOf(" + visitor + ", " + what + ")", maze.visitorOf(visitor, what), numbers[what]);
        }
    }

    private static void gardenerDue(MazeBonds maze, int gardener, int... numbers) {
        for (int what = 0; what < numbers.length; what++) {
            Expect.due("gardenerOf(" + gardener + ", " + what + ")", maze.gardenerOf(gardener, what), numbers[what]);
        }
    }

    private static void promise6Gardener() {
        MazeBonds maze = new MazeBonds();
        Expect.refused(maze, 1, 0, "gardener(-1)", () -> maze.gardener(-1));
        Expect.refused(maze, 1, 0, "gardener(100)", () -> maze.gardener(100));
        Expect.due("gardener(0)", maze.gardener(0), 0);
        Expect.due("gardener(99)", maze.gardener(99), 1);
        Expect.due("gardener(7)", maze.gardener(7), 2);
        Expect.due("gardener(8)", maze.gardener(8), 3);
        Expect.refused(maze, 13, 4, "a fifth gardener", () -> maze.gardener(5));
        Expect.refused(maze, 1, 0, "the range comes ahead", () -> maze.gardener(100));
        Expect.due("how many gardeners", maze.account(0), 4);
        Expect.due("coins brought", maze.account(7), 114);
        gardenerDue(maze, 1, 99, 0, 0, 0, 0);
    }

    private static void promise7Visitor() {
        MazeBonds maze = new MazeBonds();
        Expect.due("visitor(0)", maze.visitor(0), 0);
        visitorDue(maze, 0, 0, 0, 0, 6, 0, -1, 0, 0, 0);
        maze.hedge(0, 1, 5);
        maze.hedge(4, 8, 5);
        maze.hedge(5, 9, 5);
        maze.hedge(6, 10, 5);
        maze.hedge(6, 7, 5);
        maze.hedge(1, 2, 4);
        Expect.due("visitor(99)", maze.visitor(99), 1);
        visitorDue(maze, 1, 99, 0, 0, 8, 0, -1, 0, 0, 0);
        visitorDue(maze, 0, 0, 0, 0, 6);
        Expect.due("coins brought", maze.account(7), 99);
    }

    private static void promise7VisitorRefused() {
        MazeBonds maze = new MazeBonds();
        Expect.refused(maze, 1, 0, "visitor(-1)", () -> maze.visitor(-1));
        Expect.refused(maze, 1, 0, "visitor(100)", () -> maze.visitor(100));
        for (int number = 0; number < 4; number++) {
            Expect.due("visitor", maze.visitor(number), number);
        }
        maze.hedge(2, 3, 5);
        maze.hedge(6, 7, 5);
        maze.hedge(10, 11, 5);
        maze.hedge(14, 15, 5);
        Expect.refused(maze, 6, 12, "no way to the exit", () -> maze.visitor(1));
        Expect.refused(maze, 1, 0, "the range comes ahead of the way", () -> maze.visitor(100));
        Expect.due("none has come", maze.account(1), 4);
        maze.hedge(2, 3, 4);
        Expect.due("visitor", maze.visitor(4), 4);
        maze.hedge(2, 3, 9);
        Expect.refused(maze, 13, 5, "a sixth visitor, ahead of the way", () -> maze.visitor(1));
        Expect.refused(maze, 1, 0, "the range comes ahead", () -> maze.visitor(-5));
        Expect.due("coins brought", maze.account(7), 10);
    }

    private static void promise8Bond() {
        MazeBonds maze = withPeople(0, 10);
        maze.gardener(3);
        maze.visitor(9);
        Expect.due("bond answers the visitor's coins", maze.bond(0, 0, 5), 0);
        Expect.due("bond of the other gardener", maze.bond(1, 1, 1), 7);
        gardenerDue(maze, 0, 10, 1, 10, 0, 0);
        gardenerDue(maze, 1, 5, 1, 2, 0, 0);
        visitorDue(maze, 0, 0, 0, 0, 6, 0, 0, 5, 0, 0);
        visitorDue(maze, 1, 7, 0, 0, 6, 0, 1, 1, 0, 0);
        Expect.due("bonds that last", maze.account(3), 2);
        Expect.due("void bonds", maze.account(4), 0);
    }

    private static void promise8BondRefused() {
        MazeBonds maze = new MazeBonds();
        Expect.refused(maze, 4, 0, "bond without gardeners", () -> maze.bond(0, 0, 6));
        maze.gardener(1);
        maze.gardener(1);
        Expect.refused(maze, 4, 2, "bond(2, 0, 1)", () -> maze.bond(2, 0, 1));
        Expect.refused(maze, 4, 2, "bond(-1, 0, 1)", () -> maze.bond(-1, 0, 1));
        Expect.refused(maze, 7, 0, "bond(0, 0, 6)", () -> maze.bond(0, 0, 6));
        maze.visitor(20);
        maze.visitor(3);
        maze.visitor(30);
        Expect.refused(maze, 7, 3, "bond(0, 3, 1)", () -> maze.bond(0, 3, 1));
        Expect.refused(maze, 7, 3, "bond(0, -1, 1)", () -> maze.bond(0, -1, 1));
        Expect.refused(maze, 5, 7, "too few coins", () -> maze.bond(0, 1, 5));
        maze.minotaur(0);
        Expect.refused(maze, 10, 0, "the minotaur comes ahead of the coins", () -> maze.bond(0, 1, 5));
        maze.minotaur(-1);
        maze.bond(1, 0, 4);
        maze.minotaur(0);
        Expect.refused(maze, 8, 1, "a void bond is a bond, ahead of the minotaur", () -> maze.bond(0, 0, 1));
        Expect.refused(maze, 1, 0, "bond(0, 0, 0)", () -> maze.bond(0, 0, 0));
        Expect.refused(maze, 1, 0, "bond(0, 0, 6)", () -> maze.bond(0, 0, 6));
        maze.minotaur(3);
        walkAll(maze, 2, EAST, EAST, EAST);
        Expect.refused(maze, 10, 3, "meets the minotaur", () -> maze.bond(0, 2, 1));
        walkAll(maze, 2, SOUTH, SOUTH, SOUTH);
        Expect.refused(maze, 9, 6, "who is out", () -> maze.bond(0, 2, 1));
        Expect.refused(maze, 1, 0, "the rate comes ahead of out", () -> maze.bond(0, 2, 6));
        visitorDue(maze, 1, 3, 0, 0, 6, 0, -1, 0, 0, 0);
        gardenerDue(maze, 0, 1, 0, 0, 0, 0);
    }

    private static void promise9Walk() {
        MazeBonds maze = withPeople(0, 0);
        Expect.due("walk east", maze.walk(0, EAST), 1);
        Expect.due("walk south", maze.walk(0, SOUTH), 5);
        Expect.due("walk west", maze.walk(0, WEST), 4);
        Expect.due("walk north", maze.walk(0, NORTH), 0);
        visitorDue(maze, 0, 0, 0, 4, 6, 0, -1, 0, 0, 0);
        maze.hedge(0, 1, 4);
        Expect.due("walk through a gap with 4 leaves", maze.walk(0, EAST), 1);
        Expect.due("hours lost count above the allowance alone", maze.visitorOf(0, 4), 0);
    }

    private static void promise9WalkRefused() {
        MazeBonds maze = new MazeBonds();
        Expect.refused(maze, 7, 0, "walk(0, 4) without visitors", () -> maze.walk(0, 4));
        maze.visitor(1);
        Expect.refused(maze, 7, 1, "walk(1, 0)", () -> maze.walk(1, 0));
        Expect.refused(maze, 7, 1, "walk(-1, 0)", () -> maze.walk(-1, 0));
        Expect.refused(maze, 1, 0, "walk(0, -1)", () -> maze.walk(0, -1));
        Expect.refused(maze, 1, 0, "walk(0, 4)", () -> maze.walk(0, 4));
        Expect.refused(maze, 11, 0, "north of the maze", () -> maze.walk(0, NORTH));
        Expect.refused(maze, 11, 0, "west of the maze", () -> maze.walk(0, WEST));
        walkAll(maze, 0, EAST, EAST, EAST);
        Expect.refused(maze, 11, 3, "east of the maze", () -> maze.walk(0, EAST));
        maze.hedge(3, 7, 5);
        Expect.refused(maze, 12, 5, "a hedge", () -> maze.walk(0, SOUTH));
        walkAll(maze, 0, WEST, SOUTH, SOUTH, SOUTH);
        Expect.refused(maze, 11, 14, "south of the maze", () -> maze.walk(0, SOUTH));
        Expect.due("a refused walk spends no hours", maze.visitorOf(0, 2), 7);
        Expect.due("the exit", maze.walk(0, EAST), 15);
        Expect.refused(maze, 9, 8, "who is out", () -> maze.walk(0, NORTH));
        Expect.refused(maze, 1, 0, "the direction comes ahead of out", () -> maze.walk(0, 4));
        Expect.due("the cell then", maze.visitorOf(0, 1), 15);
    }

    private static void promise9ExitPays() {
        MazeBonds maze = withPeople(50, 10);
        maze.bond(0, 0, 3);
        maze.rest(0, 7);
        walkOut(maze, 0);
        visitorDue(maze, 0, 25, 15, 13, 6, 7, -1, 0, 0, 1);
        gardenerDue(maze, 0, 35, 0, 6, 21, 0);
        Expect.due("all coins are there", maze.account(9), 60);
        Expect.due("one is out", maze.account(2), 1);
        Expect.due("no bond lasts", maze.account(3), 0);
        MazeBonds quick = withPeople(50, 10);
        quick.bond(0, 0, 3);
        quick.hedge(0, 4, 9);
        walkOut(quick, 0);
        visitorDue(quick, 0, 4, 15, 6, 6, 0, -1, 0, 0, 1);
        gardenerDue(quick, 0, 56, 0, 6, 0, 0);
    }

    private static void promise9ExitPaysNoMoreThanThereIs() {
        MazeBonds maze = withPeople(1, 10);
        maze.bond(0, 0, 5);
        maze.rest(0, 3);
        walkOut(maze, 0);
        visitorDue(maze, 0, 11, 15, 9, 6, 3, -1, 0, 0, 1);
        gardenerDue(maze, 0, 0, 0, 10, 11, 0);
        MazeBonds slow = new MazeBonds();
        for (int cell : new int[] {0, 1, 2, 5, 6, 7}) {
            slow.hedge(cell, cell + 4, 5);
        }
        slow.gardener(30);
        slow.visitor(4);
        slow.bond(0, 0, 2);
        slow.hedge(7, 11, 0);
        slow.walk(0, EAST);
        walkAll(slow, 0, EAST, EAST, SOUTH, SOUTH, SOUTH);
        visitorDue(slow, 0, 0, 15, 6, 12, 0, -1, 0, 0, 1);
    }

    private static void promise9ExitMeetsMinotaur() {
        MazeBonds maze = withPeople(50, 10);
        maze.bond(0, 0, 3);
        maze.rest(0, 9);
        maze.minotaur(15);
        walkOut(maze, 0);
        visitorDue(maze, 0, 4, 15, 15, 6, 9, -1, 0, 0, 1);
        gardenerDue(maze, 0, 56, 0, 6, 0, 0);
        MazeBonds passed = withPeople(50, 10);
        passed.bond(0, 0, 3);
        passed.minotaur(3);
        passed.rest(0, 9);
        walkAll(passed, 0, EAST, EAST);
        visitorDue(passed, 0, 4, 2, 11, 6, 5, 0, 3, 0, 0);
        passed.walk(0, EAST);
        visitorDue(passed, 0, 4, 3, 12, 6, 6, 0, 3, 1, 0);
        passed.minotaur(-1);
        walkAll(passed, 0, SOUTH, SOUTH, SOUTH);
        visitorDue(passed, 0, 4, 15, 15, 6, 9, -1, 0, 0, 1);
        gardenerDue(passed, 0, 56, 0, 6, 0, 0);
    }

    private static void promise10Rest() {
        MazeBonds maze = new MazeBonds();
        Expect.refused(maze, 7, 0, "rest(0, 0) without visitors", () -> maze.rest(0, 0));
        maze.visitor(1);
        maze.visitor(1);
        Expect.due("rest(0, 1)", maze.rest(0, 1), 1);
        Expect.due("rest(0, 9)", maze.rest(0, 9), 10);
        Expect.due("the other has not rested", maze.visitorOf(1, 2), 0);
        Expect.due("hours lost", maze.visitorOf(0, 4), 4);
        Expect.refused(maze, 7, 2, "rest(2, 1)", () -> maze.rest(2, 1));
        Expect.refused(maze, 7, 2, "rest(-1, 1)", () -> maze.rest(-1, 1));
        Expect.refused(maze, 1, 0, "rest(0, 0)", () -> maze.rest(0, 0));
        Expect.refused(maze, 1, 0, "rest(0, 10)", () -> maze.rest(0, 10));
        walkOut(maze, 1);
        Expect.refused(maze, 9, 6, "who is out", () -> maze.rest(1, 1));
        Expect.refused(maze, 1, 0, "the hours come ahead of out", () -> maze.rest(1, 0));
        maze.minotaur(0);
        Expect.due("rest where the minotaur is", maze.rest(0, 2), 12);
    }

    private static void promise22GardenerOf() {
        MazeBonds maze = withPeople(20, 20);
        maze.gardener(9);
        maze.visitor(20);
        maze.bond(0, 0, 1);
        maze.bond(0, 1, 2);
        maze.hedge(14, 15, 3);
        maze.trim(0, 14, 15);
        maze.minotaur(0);
        gardenerDue(maze, 0, 24, 2, 6, 0, 1);
        gardenerDue(maze, 1, 9, 0, 0, 0, 0);
        Expect.outOfBounds("gardenerOf(2, 0)", () -> maze.gardenerOf(2, 0));
        Expect.outOfBounds("gardenerOf(-1, 0)", () -> maze.gardenerOf(-1, 0));
        Expect.outOfBounds("the gardener comes ahead", () -> maze.gardenerOf(2, 5));
        Expect.wrongArgument("gardenerOf(0, 5)", () -> maze.gardenerOf(0, 5));
        Expect.wrongArgument("gardenerOf(0, -1)", () -> maze.gardenerOf(0, -1));
    }

    private static void promise23VisitorOf() {
        MazeBonds maze = withPeople(20, 20);
        maze.gardener(5);
        maze.bond(1, 0, 2);
        maze.rest(0, 8);
        maze.walk(0, SOUTH);
        visitorDue(maze, 0, 16, 4, 9, 6, 3, 1, 2, 0, 0);
        maze.minotaur(4);
        visitorDue(maze, 0, 16, 4, 9, 6, 3, 1, 2, 1, 0);
        Expect.outOfBounds("visitorOf(1, 0)", () -> maze.visitorOf(1, 0));
        Expect.outOfBounds("visitorOf(-1, 0)", () -> maze.visitorOf(-1, 0));
        Expect.outOfBounds("the visitor comes ahead", () -> maze.visitorOf(1, 9));
        Expect.wrongArgument("visitorOf(0, 9)", () -> maze.visitorOf(0, 9));
        Expect.wrongArgument("visitorOf(0, -1)", () -> maze.visitorOf(0, -1));
    }

    private static void promise24WouldPay() {
        MazeBonds maze = withPeople(20, 20);
        maze.visitor(20);
        Expect.noSuch("wouldPay without a bond", () -> maze.wouldPay(0));
        maze.bond(0, 0, 2);
        Expect.due("nothing lost", maze.wouldPay(0), 0);
        maze.rest(0, 1);
        Expect.due("the way counts", maze.wouldPay(0), 2);
        maze.walk(0, EAST);
        Expect.due("a step on the way changes nothing", maze.wouldPay(0), 2);
        maze.walk(0, WEST);
        Expect.due("a step back costs two hours", maze.wouldPay(0), 6);
        maze.minotaur(15);
        Expect.due("the minotaur on the way is left out", maze.wouldPay(0), 6);
        maze.rest(0, 9);
        Expect.due("no more than the gardener has", maze.wouldPay(0), 24);
        maze.hedge(0, 4, 9);
        maze.hedge(0, 1, 9);
        Expect.noSuch("wouldPay without a way", () -> maze.wouldPay(0));
        maze.hedge(0, 1, 0);
        maze.minotaur(0);
        Expect.due("a void bond", maze.wouldPay(0), 0);
        walkOut(maze, 0);
        Expect.noSuch("wouldPay of who is out", () -> maze.wouldPay(0));
        Expect.outOfBounds("wouldPay(2)", () -> maze.wouldPay(2));
        Expect.outOfBounds("wouldPay(-1)", () -> maze.wouldPay(-1));
    }

    private static void promise25Owed() {
        MazeBonds maze = withPeople(0, 20);
        maze.gardener(5);
        maze.visitor(20);
        maze.visitor(20);
        maze.visitor(20);
        maze.bond(0, 0, 5);
        maze.bond(0, 1, 2);
        maze.bond(1, 2, 3);
        Expect.due("nothing lost", maze.owed(0), 0);
        maze.rest(0, 9);
        maze.rest(1, 8);
        maze.rest(2, 7);
        maze.rest(3, 9);
        Expect.due("owed, more than there is", maze.owed(0), 19);
        Expect.due("owed by the other", maze.owed(1), 3);
        maze.walk(1, EAST);
        maze.minotaur(0);
        Expect.due("void bonds owe nothing", maze.owed(0), 6);
        Expect.due("void bonds owe nothing", maze.owed(1), 0);
        walkAll(maze, 1, EAST, EAST, SOUTH, SOUTH, SOUTH);
        Expect.due("who is out is owed nothing", maze.owed(0), 0);
        Expect.outOfBounds("owed(2)", () -> maze.owed(2));
        Expect.outOfBounds("owed(-1)", () -> maze.owed(-1));
    }

    private static void rankedDue(MazeBonds maze, int measure, int... visitors) {
        for (int place = 0; place < visitors.length; place++) {
            Expect.due("ranked(" + measure + ", " + place + ")", maze.ranked(measure, place), visitors[place]);
        }
    }

    private static void promise26Ranked() {
        MazeBonds maze = withPeople(90, 30);
        maze.visitor(50);
        maze.visitor(30);
        maze.hedge(0, 1, 9);
        maze.hedge(4, 5, 9);
        maze.hedge(8, 9, 9);
        maze.hedge(13, 9, 9);
        maze.hedge(14, 15, 9);
        maze.visitor(40);
        rankedDue(maze, 0, 1, 3, 0, 2);
        maze.rest(0, 7);
        maze.rest(2, 9);
        maze.rest(3, 9);
        rankedDue(maze, 1, 2, 3, 0, 1);
        rankedDue(maze, 2, 2, 0, 3, 1);
        maze.bond(0, 3, 1);
        maze.bond(0, 1, 5);
        rankedDue(maze, 3, 1, 3, 0, 2);
        rankedDue(maze, 0, 1, 3, 0, 2);
        maze.minotaur(0);
        rankedDue(maze, 3, 1, 3, 0, 2);
        Expect.noSuch("ranked(0, 4)", () -> maze.ranked(0, 4));
        Expect.noSuch("ranked(3, -1)", () -> maze.ranked(3, -1));
        Expect.wrongArgument("ranked(4, 0)", () -> maze.ranked(4, 0));
        Expect.wrongArgument("the measure comes ahead", () -> maze.ranked(-1, 9));
        Expect.noSuch("ranked without visitors", () -> new MazeBonds().ranked(0, 0));
    }

    private static void richestDue(MazeBonds maze, int... gardeners) {
        for (int place = 0; place < gardeners.length; place++) {
            Expect.due("richest(" + place + ")", maze.richest(place), gardeners[place]);
        }
    }

    private static void promise27Richest() {
        MazeBonds maze = withPeople(10, 20);
        maze.gardener(12);
        maze.gardener(8);
        maze.gardener(12);
        maze.visitor(20);
        maze.visitor(20);
        richestDue(maze, 1, 3, 0, 2);
        maze.bond(0, 0, 1);
        richestDue(maze, 0, 1, 3, 2);
        maze.rest(0, 7);
        Expect.due("owed by 0", maze.owed(0), 1);
        richestDue(maze, 1, 3, 0, 2);
        maze.bond(2, 1, 2);
        maze.rest(1, 9);
        Expect.due("owed by 2", maze.owed(2), 6);
        richestDue(maze, 1, 3, 0, 2);
        maze.minotaur(0);
        richestDue(maze, 0, 1, 2, 3);
        Expect.noSuch("richest(4)", () -> maze.richest(4));
        Expect.noSuch("richest(-1)", () -> maze.richest(-1));
        Expect.noSuch("richest without gardeners", () -> new MazeBonds().richest(0));
    }

    private static void promise32Line() {
        MazeBonds maze = withPeople(20, 20);
        maze.gardener(5);
        Expect.due("line at first", Expect.written(maze, maze.line(0)), "0+0");
        maze.bond(1, 0, 3);
        maze.rest(0, 9);
        walkAll(maze, 0, SOUTH, SOUTH, EAST, EAST);
        Expect.due("line with a bond", Expect.written(maze, maze.line(0)), "10+13#1*3");
        maze.minotaur(10);
        Expect.due("line with a void bond", Expect.written(maze, maze.line(0)), "10+13#1*3!");
        walkAll(maze, 0, SOUTH, EAST);
        Expect.due("line of who is out", Expect.written(maze, maze.line(0)), "out+15");
        Expect.outOfBounds("line(1)", () -> maze.line(1));
        Expect.outOfBounds("line(-1)", () -> maze.line(-1));
        Expect.due("a wrong line leaves the line", Expect.written(maze, 6), "out+15");
    }

    private static void promise35MeanLost() {
        MazeBonds maze = new MazeBonds();
        Expect.fails("meanLost without visitors", ArithmeticException.class, () -> maze.meanLost());
        maze.visitor(1);
        maze.visitor(1);
        maze.visitor(1);
        Expect.due("meanLost at first", maze.meanLost(), 0.0);
        maze.rest(0, 9);
        maze.rest(1, 8);
        maze.rest(2, 5);
        Expect.due("meanLost", maze.meanLost(), 5.0 / 3.0);
        walkOut(maze, 1);
        Expect.due("meanLost with one out", maze.meanLost(), 11.0 / 3.0);
    }
}
