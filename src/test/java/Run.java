import java.util.ArrayList;
import java.util.List;

/** A run of calls on a new yard, to test one sentence of the document. */
final class Run {

    static final String ARGUMENT = Call.THROWS + "IllegalArgumentException";
    static final String STATE = Call.THROWS + "IllegalStateException";
    static final String ELEMENT = Call.THROWS + "NoSuchElementException";
    static final String INDEX = Call.THROWS + "IndexOutOfBoundsException";

    static final int LOW = Integer.MIN_VALUE;
    static final int HIGH = Integer.MAX_VALUE;
    static final int[] NO_REGISTERS = {LOW, -8, -1, 8, 9, 256, HIGH};
    static final int[] NO_WEAK_ONES = {LOW, -4, -1, 4, 5, 6, 7, 8, 256, HIGH};

    /** The document promises nothing about a yard after so many calls, so no test may ask it. */
    private static final int MOST_CALLS = 512;

    /** More than a story can take; what is left is for the calls before it. */
    private static final int CALLS_OF_A_STORY = 300;

    private final Checks checks;
    private final String title;
    private final ForwardYard yard = new ForwardYard();
    private final List<Call> calls = new ArrayList<>();

    Run(Checks checks, String title) {
        this.checks = checks;
        this.title = title;
    }

    /** The same sentence on a new yard. */
    Run another() {
        return new Run(checks, title);
    }

    int length() {
        return calls.size();
    }

    /** The call must give this answer. */
    void due(Object want, String name, int... arguments) {
        Call call = new Call(name, arguments);
        check(call.told(), answer(call), want);
    }

    /** The call must not throw; its answer, if it has one, is another sentence's matter. */
    void does(String name, int... arguments) {
        Call call = new Call(name, arguments);
        Object answer = answer(call);
        check(call.told(), answer, Call.threw(answer) ? "no exception" : answer);
    }

    /** The call must throw this exception and change nothing. */
    void refused(String exception, String name, int... arguments) {
        String before = story();
        due(exception, name, arguments);
        check("all that can be seen after " + calls.get(calls.size() - 1).told(), story(), before);
    }

    void refusedForEach(String exception, int[] wrong, String name, int place, int... arguments) {
        for (int argument : wrong) {
            int[] changed = arguments.clone();
            changed[place] = argument;
            refused(exception, name, changed);
        }
    }

    /** Fills the store by one chain: registers 0 and 2 refer to its first object, 1 to its last. */
    void makeChain() {
        does("make", 0, 1, 0);
        does("copy", 0, 1);
        for (int value = 1; value < 60; value++) {
            does("make", 2, 1, value);
            does("set", 2, 0, 0);
            does("copy", 2, 0);
        }
    }

    /** The object to which register r refers. */
    void object(int r, int number, int value, int age, int fieldCount) {
        due(number, "about", r, 0);
        due(value, "about", r, 1);
        due(age, "about", r, 2);
        due(fieldCount, "about", r, 3);
    }

    /** The numbers to which all fields of the object refer to which register r refers. */
    void fields(int r, int... numbers) {
        due(numbers.length, "about", r, 3);
        for (int f = 0; f < numbers.length; f++) {
            due(numbers[f], "field", r, f);
        }
    }

    /** The numbers to which the registers refer from register 0 on; -1 for nothing. */
    void registers(int... numbers) {
        for (int r = 0; r < numbers.length; r++) {
            due(numbers[r] == -1 ? ELEMENT : (Object) numbers[r], "about", r, 0);
        }
    }

    void weakRegisters(int... numbers) {
        for (int w = 0; w < numbers.length; w++) {
            due(numbers[w], "watched", w);
        }
    }

    void figures(int words, int objects, int collections, int made) {
        due(words, "figure", 0);
        due(objects, "figure", 1);
        due(collections, "figure", 2);
        due(made, "figure", 3);
    }

    /** All that can be seen after the calls of this run, by further calls on a yard of its own. */
    String story() {
        check("a run before a story", calls.size() <= MOST_CALLS - CALLS_OF_A_STORY, true);
        ForwardYard told = new ForwardYard();
        for (Call call : calls) {
            call.answerOf(told);
        }
        StringBuilder story = new StringBuilder();
        tellAll(story, told);
        for (int r = 0; r < 8; r++) {
            int last = told.reach(r) == 0 ? -1 : told.about(r, 3) - 1;
            if (last >= 0) {
                told.get(r, last, r);
            }
        }
        tellAll(story, told);
        for (int w = 0; w < 4; w++) {
            told.revive(w, w);
        }
        story.append("let go: ").append(told.collect(1, 0)).append('\n');
        tellAll(story, told);
        return story.toString();
    }

    private static void tellAll(StringBuilder story, ForwardYard told) {
        for (int k = 0; k < 4; k++) {
            story.append(told.figure(k)).append(' ');
        }
        for (int w = 0; w < 4; w++) {
            story.append(told.watched(w)).append(' ');
        }
        for (int r = 0; r < 8; r++) {
            int reached = told.reach(r);
            story.append("| ").append(reached).append(' ');
            if (reached > 0) {
                tellObject(story, told, r);
            }
        }
        story.append('\n');
    }

    private static void tellObject(StringBuilder story, ForwardYard told, int r) {
        int fields = 0;
        for (int what = 0; what < 4; what++) {
            fields = told.about(r, what);
            story.append(fields).append(' ');
        }
        for (int f = 0; f < fields; f++) {
            story.append(told.field(r, f)).append(' ');
        }
    }

    private Object answer(Call call) {
        calls.add(call);
        check("a run's length", calls.size() <= MOST_CALLS, true);
        return call.answerOf(yard);
    }

    void check(String call, Object got, Object want) {
        checks.due(title + ": " + call, got, want);
    }
}
