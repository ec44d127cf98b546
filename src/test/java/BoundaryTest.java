import java.io.IOException;
import java.util.Set;

/** Runs all boundary tests, and looks whether they name what the document says, and leave none of it out. */
public final class BoundaryTest {
    private static final Set<String> WITHOUT_CLAUSES = Set.of("The public face", "Not promised");
    // Clauses that name no boundary; ModelTest and the tests of each promise hold what they say.
    private static final Set<String> WITHOUT_BOUNDARY = Set.of(
        "what later calls answer is free.", "Tells the leaves of a hedge.", "one: the one cell", "other: the other cell",
        "leaves: the leaves", "gardener: the gardener", "visitor: the visitor", "from: the cell from which it goes",
        "from: the cell from which they go", "to: the cell to which it goes", "character: the character",
        "Places the minotaur, or takes him away.", "Lets a gardener come.", "Gives a visitor a bond.",
        "Lets a visitor walk to a neighbour.", "Lets a visitor rest.", "Returns the leaves.", "Returns how many.",
        "Returns the next cell.", "Returns how few.", "Returns whether this is so.", "Returns a number of a gardener.",
        "Returns a number of a visitor.", "Returns the number.", "Returns how much.", "Returns the visitor.",
        "Returns the gardener.", "Appends a character to the text buffer.", "Returns a number of the reason that is kept.",
        "Returns the character.", "Returns the mean.", "Returns the part.", "Returns an account.", "Returns the account.");

    private BoundaryTest() {
    }

    public static void main(String[] args) throws IOException {
        TermsBoundaries.all();
        RefusalBoundaries.all();
        FailureBoundaries.all();
        ChangeBoundaries.all();
        WayBoundaries.all();
        PeopleBoundaries.all();
        TextBoundaries.all();
        StateBoundaries.all();
        Document document = new Document();
        eachTestNamesWhatIsSaid(document);
        eachClauseHasATest(document);
        Expect.end();
    }

    private static void eachTestNamesWhatIsSaid(Document document) {
        for (String[] named : Boundary.named()) {
            Expect.due(named[0] + " says \"" + named[1] + "\"", document.says(named[0], named[1]), true);
        }
    }

    private static void eachClauseHasATest(Document document) {
        for (String section : document.sections()) {
            for (String clause : document.clausesOf(section)) {
                if (!WITHOUT_CLAUSES.contains(section) && !isWithoutBoundary(clause)) {
                    Expect.due("a test names " + section + ", \"" + clause + "\"", isNamed(section, clause), true);
                }
            }
        }
    }

    private static boolean isWithoutBoundary(String clause) {
        return WITHOUT_BOUNDARY.contains(clause) || clause.startsWith("A hedge maze with insurance");
    }

    private static boolean isNamed(String section, String clause) {
        for (String[] named : Boundary.named()) {
            String quote = Document.plain(named[1]);
            if (named[0].equals(section) && (clause.contains(quote) || quote.contains(clause))) {
                return true;
            }
        }
        return false;
    }
}
