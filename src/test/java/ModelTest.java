import java.lang.reflect.InvocationTargetException;
import java.lang.reflect.Method;
import java.util.Arrays;
import java.util.HashMap;
import java.util.Map;
import java.util.Random;

/** Long mixed runs, each call of which must answer what PlainYard answers. */
public final class ModelTest {

    /** The calls with their arguments' kinds, and how often each comes, by the way of the run. */
    private static final String[][] CALLS = {
        {"make", "rnv"}, {"set", "rfr"}, {"get", "rfr"}, {"copy", "rr"}, {"clear", "r"},
        {"write", "rv"}, {"watch", "wr"}, {"revive", "wr"}, {"watched", "w"}, {"about", "ra"},
        {"field", "rf"}, {"same", "rr"}, {"reach", "r"}, {"collect", "ct"}, {"figure", "k"}};
    private static final int[][] OFTEN = {
        {4, 4, 4, 4, 4, 4, 4, 4, 4, 4, 4, 4, 4, 4, 4},
        {24, 30, 8, 4, 3, 3, 3, 3, 4, 5, 5, 2, 4, 2, 4},
        {40, 40, 3, 8, 0, 3, 3, 1, 4, 5, 5, 2, 6, 1, 4},
        {20, 30, 15, 4, 1, 2, 5, 8, 4, 5, 5, 2, 4, 10, 4}};
    private static final int[] AWRY = {Integer.MIN_VALUE, -1, 0, Integer.MAX_VALUE};
    private static final int RUNS = 2000;
    private static final int CALLS_OF_A_RUN = 512;

    private final Checks checks = new Checks();
    private final Map<String, Integer> outcomes = new HashMap<>();

    public static void main(String[] args) throws ReflectiveOperationException {
        ModelTest test = new ModelTest();
        for (int run = 0; run < RUNS; run++) {
            test.mixedRun(run);
        }
        test.everyOutcomeWasSeen();
        test.nothingElseIsThrownLater();
        test.checks.finish();
    }

    private void mixedRun(int run) throws ReflectiveOperationException {
        Random random = new Random(run);
        int[] often = OFTEN[run % OFTEN.length];
        int wrongOneIn = run % 3 == 0 ? 10 : 60;
        ForwardYard yard = new ForwardYard();
        PlainYard plain = new PlainYard();
        for (int i = 0; i < CALLS_OF_A_RUN; i++) {
            String[] call = choose(random, often);
            Object[] arguments = arguments(random, call[1], wrongOneIn);
            Object want = answer(plain, call[0], arguments);
            Object got = answer(yard, call[0], arguments);
            String told = "run " + run + ", call " + i + ": " + call[0] + Arrays.toString(arguments);
            checks.due(told, got, want);
            String kind = String.valueOf(want).startsWith("throws.") ? want.toString() : "answers";
            outcomes.merge(call[0] + " " + kind, 1, Integer::sum);
        }
    }

    /** A comparison proves little of an exception that no run has met. */
    private void everyOutcomeWasSeen() {
        for (String[] call : CALLS) {
            seen(call[0] + " answers");
            seen(call[0] + " throws.IllegalArgumentException");
        }
        for (String call : new String[] {"set", "get", "field"}) {
            seen(call + " throws.NoSuchElementException");
            seen(call + " throws.IndexOutOfBoundsException");
        }
        seen("write throws.NoSuchElementException");
        seen("about throws.NoSuchElementException");
        seen("make throws.IllegalStateException");
    }

    private void seen(String outcome) {
        checks.due(outcome + " was met", outcomes.getOrDefault(outcome, 0) > 0, true);
    }

    /** What calls answer after the 512th is free, but the language's rule 7 holds there too. */
    private void nothingElseIsThrownLater() throws ReflectiveOperationException {
        Random random = new Random(-1);
        ForwardYard yard = new ForwardYard();
        for (int i = 0; i < 200_000; i++) {
            String[] call = choose(random, OFTEN[i / 1000 % OFTEN.length]);
            String got = String.valueOf(answer(yard, call[0], arguments(random, call[1], 20)));
            boolean fits = !got.startsWith("throws.") || outcomes.containsKey(call[0] + " " + got);
            checks.due("late call " + i + ": " + call[0] + " " + got + " fits the face", fits, true);
        }
    }

    private static String[] choose(Random random, int[] often) {
        int left = random.nextInt(Arrays.stream(often).sum());
        int i = 0;
        while (left >= often[i]) {
            left -= often[i];
            i++;
        }
        return CALLS[i];
    }

    private static Object[] arguments(Random random, String kinds, int wrongOneIn) {
        Object[] arguments = new Object[kinds.length()];
        for (int i = 0; i < arguments.length; i++) {
            arguments[i] = argument(random, kinds.charAt(i), random.nextInt(wrongOneIn) == 0);
        }
        return arguments;
    }

    private static int argument(Random random, char kind, boolean awry) {
        switch (kind) {
            case 'r':
                return awry ? awry(random, 8) : random.nextInt(8);
            case 'n':
                return awry ? awry(random, 5) : random.nextInt(5);
            case 'c':
                return awry ? awry(random, 5) : 1 + random.nextInt(4);
            case 'w':
            case 'f':
            case 'a':
            case 'k':
                return awry ? awry(random, 4) : random.nextInt(4);
            default:
                return random.nextInt();
        }
    }

    private static int awry(Random random, int bound) {
        return random.nextBoolean() ? bound : AWRY[random.nextInt(AWRY.length)];
    }

    private static Object answer(Object yard, String name, Object[] arguments)
            throws ReflectiveOperationException {
        Class<?>[] types = new Class<?>[arguments.length];
        Arrays.fill(types, int.class);
        Method method = yard.getClass().getMethod(name, types);
        try {
            return method.invoke(yard, arguments);
        } catch (InvocationTargetException e) {
            return "throws." + e.getCause().getClass().getSimpleName();
        }
    }
}
