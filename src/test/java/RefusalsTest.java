/** What holds of refused calls: the three sentences that begin with "In all calls". */
public final class RefusalsTest {

    /** The calls of promises 2 to 14 in their order, with arguments that are right. */
    private static final Call[] ALL_RIGHT = {
        new Call("make", 0, 0, 5), new Call("set", 0, 0, 1), new Call("get", 0, 0, 1),
        new Call("copy", 0, 1), new Call("clear", 0), new Call("write", 0, 5),
        new Call("watch", 0, 1), new Call("revive", 0, 1), new Call("watched", 0),
        new Call("about", 0, 0), new Call("field", 0, 0), new Call("same", 0, 1),
        new Call("reach", 0)};

    /** What each argument of these calls is: r a register, w a weak one, - something else. */
    private static final String[] KINDS = {
        "r--", "r-r", "r-r", "rr", "r", "r-", "wr", "wr", "w", "r-", "r-", "rr", "r"};

    private static final String NO_REGISTER = "In all calls, illegal argument: something is no "
        + "register (weak one, where that is asked for).";

    private record Refusal(int promise, String exception, Call call) {
    }

    /** For a lively yard whose register 5 refers to nothing: one reason at a time. */
    private static final Refusal[] REFUSALS = {
        new Refusal(2, Run.ARGUMENT, new Call("make", 0, 5, 5)),
        new Refusal(2, Run.STATE, new Call("make", 0, 4, 5)),
        new Refusal(3, Run.ELEMENT, new Call("set", 5, 0, 1)),
        new Refusal(3, Run.INDEX, new Call("set", 0, 1, 1)),
        new Refusal(4, Run.ELEMENT, new Call("get", 5, 0, 1)),
        new Refusal(4, Run.INDEX, new Call("get", 0, 1, 1)),
        new Refusal(7, Run.ELEMENT, new Call("write", 5, 5)),
        new Refusal(11, Run.ARGUMENT, new Call("about", 0, 4)),
        new Refusal(11, Run.ELEMENT, new Call("about", 5, 1)),
        new Refusal(12, Run.ELEMENT, new Call("field", 5, 0)),
        new Refusal(12, Run.INDEX, new Call("field", 0, 1)),
        new Refusal(15, Run.ARGUMENT, new Call("collect", 5, 5)),
        new Refusal(16, Run.ARGUMENT, new Call("figure", 4))};

    /** For the same yard: several reasons at once. */
    private static final Refusal[] ORDERED_REFUSALS = {
        new Refusal(2, Run.ARGUMENT, new Call("make", 8, 4, 5)),
        new Refusal(2, Run.ARGUMENT, new Call("make", 0, 5, 5)),
        new Refusal(2, Run.ARGUMENT, new Call("make", 0, -1, 5)),
        new Refusal(3, Run.ARGUMENT, new Call("set", 5, 0, 8)),
        new Refusal(3, Run.ARGUMENT, new Call("set", 0, 1, -1)),
        new Refusal(3, Run.ARGUMENT, new Call("set", 8, 9, 0)),
        new Refusal(3, Run.ARGUMENT, new Call("set", 5, -1, 8)),
        new Refusal(3, Run.ELEMENT, new Call("set", 5, -1, 0)),
        new Refusal(3, Run.ELEMENT, new Call("set", 5, 4, 5)),
        new Refusal(4, Run.ARGUMENT, new Call("get", 5, 0, 8)),
        new Refusal(4, Run.ARGUMENT, new Call("get", 0, 1, -1)),
        new Refusal(4, Run.ARGUMENT, new Call("get", 8, 9, 0)),
        new Refusal(4, Run.ARGUMENT, new Call("get", 5, -1, 8)),
        new Refusal(4, Run.ELEMENT, new Call("get", 5, -1, 0)),
        new Refusal(4, Run.ELEMENT, new Call("get", 5, 4, 5)),
        new Refusal(11, Run.ARGUMENT, new Call("about", 5, 4)),
        new Refusal(11, Run.ARGUMENT, new Call("about", 5, -1)),
        new Refusal(12, Run.ARGUMENT, new Call("field", 8, 9)),
        new Refusal(12, Run.ELEMENT, new Call("field", 5, -1)),
        new Refusal(12, Run.ELEMENT, new Call("field", 5, 4))};

    public static void main(String[] args) {
        Sentences all = new Sentences();
        for (int i = 0; i < ALL_RIGHT.length; i++) {
            Call call = ALL_RIGHT[i];
            String kinds = KINDS[i];
            String promise = "promise " + (i + 2);
            all.holds(promise, NO_REGISTER, run -> noRegister(run, call, kinds));
            all.holds(promise, NO_REGISTER, run -> everyRegister(run, call, kinds));
        }
        for (Refusal refusal : REFUSALS) {
            all.holds("promise " + refusal.promise, "A call that throws changes nothing",
                run -> refuse(run, refusal));
        }
        for (Refusal refusal : ORDERED_REFUSALS) {
            all.holds("promise " + refusal.promise,
                "of several reasons the exception named first is thrown",
                run -> refuse(run, refusal));
        }
        all.finish();
    }

    private static void noRegister(Run run, Call call, String kinds) {
        for (int place = 0; place < kinds.length(); place++) {
            Run one = run.another();
            makeLively(one);
            char kind = kinds.charAt(place);
            int[] wrong = kind == 'r' ? Run.NO_REGISTERS : Run.NO_WEAK_ONES;
            if (kind != '-') {
                one.refusedForEach(Run.ARGUMENT, wrong, call.name(), place, call.arguments());
            }
        }
    }

    private static void everyRegister(Run run, Call call, String kinds) {
        for (int place = 0; place < kinds.length(); place++) {
            char kind = kinds.charAt(place);
            int most = kind == 'r' ? 8 : kind == 'w' ? 4 : 0;
            for (int right = 0; right < most; right++) {
                Run one = run.another();
                int[] changed = call.arguments().clone();
                changed[place] = right;
                makeLively(one);
                one.does(call.name(), changed);
            }
        }
    }

    private static void refuse(Run run, Refusal refusal) {
        makeLively(run);
        run.does("clear", 5);
        run.refused(refusal.exception, refusal.call.name(), refusal.call.arguments());
    }

    /** Every register and weak register in use, an unreached object, ages, and room for 3 words. */
    private static void makeLively(Run run) {
        run.does("make", 0, 2, 99);
        for (int r = 0; r < 8; r++) {
            run.does("make", r, 1, 10 + r);
            run.does("set", r, 0, r / 2);
        }
        run.does("collect", 3, 3);
        for (int w = 0; w < 4; w++) {
            run.does("watch", w, 2 * w);
        }
        for (int i = 0; i < 28; i++) {
            run.does("make", 6, 4, i);
        }
        run.does("make", 6, 0, 16);
        run.does("make", 6, 3, 17);
    }
}
