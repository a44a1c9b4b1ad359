import java.util.Set;
import java.util.TreeSet;

/** Runs the tests of single sentences, and sees to it that the document has these, and that none is left out. */
final class Held {
    private final Document document;
    private final Set<String> named = new TreeSet<>();
    private String heading = "";

    Held(Document document) {
        this.document = document;
    }

    /** The sentences that come now stand under this heading. */
    Held in(String heading) {
        this.heading = heading;
        named.add(heading);
        return this;
    }

    Held by(String sentence, Runnable test) {
        int before = Check.looked();
        int wrongBefore = Check.wrong();
        Check.about(heading + ", \"" + sentence + "\": ");
        Check.due("the document has this sentence", document.quote(heading, sentence), true);
        try {
            test.run();
        } catch (RuntimeException e) {
            Check.fail("the test", e + " at " + e.getStackTrace()[0], "an end");
        }
        Check.due("there is something to look at", Check.looked() > before + 1, true);
        Check.about("");
        System.out.println((Check.wrong() == wrongBefore ? "held   " : "BROKEN ") + heading + ", \"" + sentence + "\"");
        return this;
    }

    void noneIsLeftOut() {
        for (String each : document.headings()) {
            boolean due = each.equals("What it is") || each.equals("Terms") || each.startsWith("Promise ");
            Check.due(each + " has tests", named.contains(each), due);
            if (due) {
                Check.due(each + ", without a test", String.join(" | ", document.notQuoted(each)), "");
            }
        }
    }
}
