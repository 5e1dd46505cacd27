/** The tests of one part of the document, each under the sentence that it holds the class to. */
final class Sentences {

    interface Test {
        void check(Run run);
    }

    private final Checks checks = new Checks();

    void holds(String promise, String sentence, Test test) {
        String title = promise + " \"" + sentence + "\"";
        try {
            test.check(new Run(checks, title));
        } catch (RuntimeException | Error e) {
            checks.due(title + ": the test", e.toString(), "its end");
        }
    }

    void finish() {
        checks.finish();
    }
}
