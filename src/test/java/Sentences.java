import java.util.List;

/** Holds runs of calls against words of the document, and finds words that have none. */
final class Sentences {
    private final Document document = new Document();
    private final Checks checks = new Checks();
    private String heading = "";

    List<String> promises() {
        return document.promises();
    }

    void section(String name) {
        heading = name;
    }

    /** Each run, as Script tells them, is on a new object. */
    void says(String words, String... runs) {
        String name = heading + ", '" + words + "'";
        checks.is(name + " stands in the document", true, () -> document.quote(heading, words));
        checks.is(name + " has a run", true, () -> runs.length > 0);
        for (String run : runs) {
            new Script(checks, name).play(run);
        }
    }

    /** A run that belongs to the sentence before it, but not to words of it. */
    void holds(String what, String run) {
        new Script(checks, heading + ", " + what).play(run);
    }

    void whole(String name) {
        checks.is(name + " words without a test", "", () -> document.unquoted(name));
    }

    void end(String name) {
        checks.end(name);
    }
}
