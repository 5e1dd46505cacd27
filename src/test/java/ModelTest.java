import java.util.Arrays;
import java.util.HashMap;
import java.util.Map;
import java.util.Random;

/** Long mixed runs, each call of which must answer what PlainYard answers. */
public final class ModelTest {

    /** The calls with their arguments' kinds, and how often each comes, by the way of the run. */
    private static final String[][] CALLS = {
        {"make", "rnv"}, {"set", "rfr"}, {"get", "rfr"}, {"copy", "rr"}, {"clear", "r"},
        {"write", "rv"}, {"watch", "wr"}, {"revive", "wr"}, {"watched", "w"}, {"about", "ra"},
        {"field", "rf"}, {"same", "rr"}, {"reach", "r"}, {"collect", "ct"}, {"figure", "k"}};
    private static final int[][] OFTEN = {
        {4, 4, 4, 4, 4, 4, 4, 4, 4, 4, 4, 4, 4, 4, 4},
        {24, 30, 8, 4, 3, 3, 3, 3, 4, 5, 5, 2, 4, 2, 4},
        {40, 40, 3, 8, 0, 3, 3, 1, 4, 5, 5, 2, 6, 1, 4},
        {20, 30, 15, 4, 1, 2, 5, 8, 4, 5, 5, 2, 4, 10, 4}};
    private static final int[] AWRY = {Integer.MIN_VALUE, -1, 0, Integer.MAX_VALUE};
    private static final int RUNS = 2000;
    private static final int CALLS_OF_A_RUN = 512;

    private final Checks checks = new Checks();
    private final Map<String, Integer> outcomes = new HashMap<>();

    public static void main(String[] args) {
        ModelTest test = new ModelTest();
        for (int run = 0; run < RUNS; run++) {
            test.mixedRun(run);
        }
        test.everyOutcomeWasSeen();
        test.nothingElseIsThrownLater();
        test.checks.finish();
    }

    private void mixedRun(int run) {
        Random random = new Random(run);
        int[] often = OFTEN[run % OFTEN.length];
        int wrongOneIn = run % 3 == 0 ? 10 : 60;
        ForwardYard yard = new ForwardYard();
        PlainYard plain = new PlainYard();
        for (int i = 0; i < CALLS_OF_A_RUN; i++) {
            Call call = choose(random, often, wrongOneIn);
            Object want = call.answerOf(plain);
            Object got = call.answerOf(yard);
            checks.due("run " + run + ", call " + i + ": " + call.told(), got, want);
            String kind = Call.threw(want) ? want.toString() : "answers";
            outcomes.merge(call.name() + " " + kind, 1, Integer::sum);
        }
    }

    /** A comparison proves little of an exception that no run has met. */
    private void everyOutcomeWasSeen() {
        for (String[] call : CALLS) {
            seen(call[0] + " answers");
            seen(call[0] + " throws.IllegalArgumentException");
        }
        for (String call : new String[] {"set", "get", "field"}) {
            seen(call + " throws.NoSuchElementException");
            seen(call + " throws.IndexOutOfBoundsException");
        }
        seen("write throws.NoSuchElementException");
        seen("about throws.NoSuchElementException");
        seen("make throws.IllegalStateException");
    }

    private void seen(String outcome) {
        checks.due(outcome + " was met", outcomes.getOrDefault(outcome, 0) > 0, true);
    }

    /** What calls answer after the 512th is free, but the language's rule 7 holds there too. */
    private void nothingElseIsThrownLater() {
        Random random = new Random(-1);
        ForwardYard yard = new ForwardYard();
        for (int i = 0; i < 200_000; i++) {
            Call call = choose(random, OFTEN[i / 1000 % OFTEN.length], 20);
            Object got = call.answerOf(yard);
            boolean fits = !Call.threw(got) || outcomes.containsKey(call.name() + " " + got);
            Object want = fits ? got : "no such exception";
            checks.due("late call " + i + ": " + call.told(), got, want);
        }
    }

    private static Call choose(Random random, int[] often, int wrongOneIn) {
        int left = random.nextInt(Arrays.stream(often).sum());
        int i = 0;
        while (left >= often[i]) {
            left -= often[i];
            i++;
        }
        return new Call(CALLS[i][0], arguments(random, CALLS[i][1], wrongOneIn));
    }

    private static int[] arguments(Random random, String kinds, int wrongOneIn) {
        int[] arguments = new int[kinds.length()];
        for (int i = 0; i < arguments.length; i++) {
            arguments[i] = argument(random, kinds.charAt(i), random.nextInt(wrongOneIn) == 0);
        }
        return arguments;
    }

    private static int argument(Random random, char kind, boolean awry) {
        switch (kind) {
            case 'r':
                return awry ? awry(random, 8) : random.nextInt(8);
            case 'n':
                return awry ? awry(random, 5) : random.nextInt(5);
            case 'c':
                return awry ? awry(random, 5) : 1 + random.nextInt(4);
            case 'w':
            case 'f':
            case 'a':
            case 'k':
                return awry ? awry(random, 4) : random.nextInt(4);
            default:
                return random.nextInt();
        }
    }

    private static int awry(Random random, int bound) {
        return random.nextBoolean() ? bound : AWRY[random.nextInt(AWRY.length)];
    }
}
