/** Promises 8 to 14, weak registers and what tells of objects, sentence by sentence. */
public final class WeakAndLooksTest {

    private static final int[] NOT_0_TO_3 = {Run.LOW, -4, -1, 4, 5, 8, 256, Run.HIGH};

    public static void main(String[] args) {
        Sentences all = new Sentences();
        watch(all);
        revive(all);
        watched(all);
        about(all);
        field(all);
        same(all);
        reach(all);
        all.finish();
    }

    private static void watch(Sentences all) {
        String watches = "Weak register w gets what register r refers to.";
        all.holds("promise 8", watches, WeakAndLooksTest::watchEachPair);
        all.holds("promise 8", watches, WeakAndLooksTest::watchNothing);
        all.holds("promise 8", watches, WeakAndLooksTest::watchTheObjectNotTheRegister);
        all.holds("promise 8", watches, WeakAndLooksTest::watchWrong);
    }

    private static void revive(Sentences all) {
        String revives = "Register r gets what weak register w refers to.";
        all.holds("promise 9", revives, WeakAndLooksTest::reviveEachPair);
        all.holds("promise 9", revives, WeakAndLooksTest::reviveNothing);
        all.holds("promise 9", revives, WeakAndLooksTest::reviveInTime);
        all.holds("promise 9", revives, WeakAndLooksTest::reviveTooLate);
        all.holds("promise 9", revives, WeakAndLooksTest::reviveWrong);
    }

    private static void watched(Sentences all) {
        all.holds("promise 10", "The number of the object to which weak register w refers",
            WeakAndLooksTest::watchedNumber);
        all.holds("promise 10", "-1 for nothing", WeakAndLooksTest::watchedNothing);
    }

    private static void about(Sentences all) {
        String eleven = "promise 11";
        all.holds(eleven, "what = 0: its number", WeakAndLooksTest::aboutNumber);
        all.holds(eleven, "1: its value", WeakAndLooksTest::aboutValue);
        all.holds(eleven, "2: its age", WeakAndLooksTest::aboutAge);
        all.holds(eleven, "3: how many fields it has", WeakAndLooksTest::aboutFields);
        all.holds(eleven, "Illegal argument: also if what is none of these",
            WeakAndLooksTest::aboutWrong);
        all.holds(eleven, "no such element: r refers to nothing", WeakAndLooksTest::aboutNothing);
    }

    private static void field(Sentences all) {
        String twelve = "promise 12";
        all.holds(twelve, "The number of the object to which field f of the object refers, to "
            + "which register r refers", WeakAndLooksTest::fieldNumber);
        all.holds(twelve, "-1 for nothing", WeakAndLooksTest::fieldNothing);
        all.holds(twelve, "no such element: r refers to nothing", WeakAndLooksTest::fieldOfNothing);
        all.holds(twelve, "index out of bounds: the object has no field f",
            WeakAndLooksTest::fieldMissing);
    }

    private static void same(Sentences all) {
        String objects = "Whether two registers refer to the same object";
        all.holds("promise 13", objects, WeakAndLooksTest::sameObject);
        all.holds("promise 13", objects, WeakAndLooksTest::sameAfterACollection);
        all.holds("promise 13", "or both to nothing", WeakAndLooksTest::sameNothing);
    }

    private static void reach(Sentences all) {
        String reaches = "How many objects are reached from that to which register r refers";
        all.holds("promise 14", reaches, WeakAndLooksTest::reachItself);
        all.holds("promise 14", reaches, WeakAndLooksTest::reachAFullStore);
        all.holds("promise 14", reaches, WeakAndLooksTest::reachEachOnce);
        all.holds("promise 14", reaches, WeakAndLooksTest::reachAfterAChange);
        all.holds("promise 14", reaches, WeakAndLooksTest::reachChangesNothing);
        all.holds("promise 14", "0 if it refers to nothing", WeakAndLooksTest::reachNothing);
    }

    private static void watchEachPair(Run run) {
        for (int w = 0; w < 4; w++) {
            for (int r = 0; r < 8; r++) {
                Run one = run.another();
                int[] numbers = {-1, -1, -1, -1};
                makeInAll(one);
                one.does("watch", w, r);
                numbers[w] = r;
                one.weakRegisters(numbers);
                one.registers(0, 1, 2, 3, 4, 5, 6, 7);
            }
        }
    }

    private static void watchNothing(Run run) {
        run.does("make", 0, 0, 0);
        for (int w = 0; w < 4; w++) {
            run.does("watch", w, 7);
            run.due(-1, "watched", w);
            run.does("watch", w, 0);
            run.due(0, "watched", w);
            run.does("watch", w, 7);
            run.due(-1, "watched", w);
        }
    }

    private static void watchTheObjectNotTheRegister(Run run) {
        run.does("make", 0, 0, 0);
        run.does("watch", 0, 0);
        run.does("make", 0, 0, 0);
        run.does("watch", 1, 0);
        run.does("clear", 0);
        run.weakRegisters(0, 1, -1, -1);
        run.figures(6, 2, 0, 2);
    }

    private static void watchWrong(Run run) {
        makeInAll(run);
        run.does("watch", 0, 1);
        run.refusedForEach(Run.ARGUMENT, Run.NO_WEAK_ONES, "watch", 0, 0, 2);
        run.refusedForEach(Run.ARGUMENT, Run.NO_REGISTERS, "watch", 1, 0, 0);
        run.refused(Run.ARGUMENT, "watch", 4, 8);
    }

    private static void reviveEachPair(Run run) {
        for (int w = 0; w < 4; w++) {
            for (int r = 0; r < 8; r++) {
                Run one = run.another();
                int[] numbers = {0, 1, 2, 3, 4, 5, 6, 7};
                makeInAll(one);
                one.does("make", 0, 0, 0);
                one.does("watch", w, 0);
                one.does("make", 0, 0, 0);
                one.does("revive", w, r);
                numbers[0] = 9;
                numbers[r] = 8;
                one.registers(numbers);
                one.due(8, "watched", w);
            }
        }
    }

    private static void reviveNothing(Run run) {
        makeInAll(run);
        for (int w = 0; w < 4; w++) {
            run.does("revive", w, w);
        }
        run.registers(-1, -1, -1, -1, 4, 5, 6, 7);
        run.does("revive", 0, 0);
        run.registers(-1);
    }

    private static void reviveInTime(Run run) {
        run.does("make", 0, 1, 8);
        run.does("set", 0, 0, 0);
        run.does("watch", 3, 0);
        run.does("clear", 0);
        run.does("revive", 3, 7);
        run.due(0, "collect", 3, 12);
        run.object(7, 0, 8, 1, 1);
        run.does("revive", 3, 6);
        run.due(true, "same", 6, 7);
    }

    private static void reviveTooLate(Run run) {
        run.does("make", 0, 1, 8);
        run.does("watch", 3, 0);
        run.does("clear", 0);
        run.due(1, "collect", 3, 12);
        run.does("make", 0, 1, 9);
        run.does("revive", 3, 0);
        run.registers(-1);
    }

    private static void reviveWrong(Run run) {
        makeInAll(run);
        run.does("watch", 0, 1);
        run.refusedForEach(Run.ARGUMENT, Run.NO_WEAK_ONES, "revive", 0, 0, 2);
        run.refusedForEach(Run.ARGUMENT, Run.NO_REGISTERS, "revive", 1, 0, 0);
        run.refused(Run.ARGUMENT, "revive", 4, 8);
    }

    private static void watchedNumber(Run run) {
        makeInAll(run);
        for (int w = 0; w < 4; w++) {
            run.does("watch", w, 2 * w);
        }
        run.weakRegisters(0, 2, 4, 6);
        run.does("clear", 0);
        run.due(0, "watched", 0);
        run.does("clear", 1);
        run.due(2, "collect", 1, 0);
        run.weakRegisters(-1, 2, 4, 6);
    }

    private static void watchedNothing(Run run) {
        run.weakRegisters(-1, -1, -1, -1);
        run.does("watch", 1, 0);
        run.weakRegisters(-1, -1, -1, -1);
        run.does("make", 0, 0, 0);
        run.does("watch", 2, 0);
        run.weakRegisters(-1, -1, 0, -1);
        run.does("clear", 0);
        run.does("collect", 1, 0);
        run.weakRegisters(-1, -1, -1, -1);
        run.does("make", 0, 0, 0);
        run.weakRegisters(-1, -1, -1, -1);
    }

    private static void aboutNumber(Run run) {
        makeInAll(run);
        run.does("clear", 0);
        run.does("collect", 1, 0);
        run.does("make", 0, 0, -5);
        run.registers(8, 1, 2, 3, 4, 5, 6, 7);
    }

    private static void aboutValue(Run run) {
        for (int value : new int[] {Run.LOW, -1, 0, 1, Run.HIGH}) {
            run.does("make", 0, 3, value);
            run.due(value, "about", 0, 1);
            run.does("collect", 2, 0);
            run.due(value, "about", 0, 1);
            run.does("write", 0, ~value);
            run.due(~value, "about", 0, 1);
        }
    }

    private static void aboutAge(Run run) {
        run.does("make", 0, 4, -1);
        for (int age = 0; age < 200; age++) {
            run.due(age, "about", 0, 2);
            run.does("collect", 1, age);
        }
        run.object(0, 0, -1, 200, 4);
    }

    private static void aboutFields(Run run) {
        for (int n = 0; n <= 4; n++) {
            run.does("make", n, n, 7);
        }
        for (int age = 0; age < 10; age++) {
            for (int n = 0; n <= 4; n++) {
                run.due(n, "about", n, 3);
            }
            run.does("collect", 1, 0);
        }
    }

    private static void aboutWrong(Run run) {
        run.does("make", 0, 2, 7);
        run.refusedForEach(Run.ARGUMENT, NOT_0_TO_3, "about", 1, 0, 0);
        run.refusedForEach(Run.ARGUMENT, NOT_0_TO_3, "about", 1, 7, 0);
    }

    private static void aboutNothing(Run run) {
        run.does("make", 0, 2, 7);
        for (int what = 0; what < 4; what++) {
            for (int r = 1; r < 8; r++) {
                run.refused(Run.ELEMENT, "about", r, what);
            }
        }
        run.does("clear", 0);
        run.refused(Run.ELEMENT, "about", 0, 0);
    }

    private static void fieldNumber(Run run) {
        makeInAll(run);
        run.does("make", 1, 4, 0);
        run.does("set", 1, 0, 0);
        run.does("set", 1, 1, 7);
        run.does("set", 1, 2, 1);
        run.does("set", 1, 3, 0);
        run.fields(1, 0, 7, 8, 0);
        run.does("clear", 0);
        run.does("clear", 2);
        run.does("collect", 3, 2);
        run.fields(1, 0, 7, 8, 0);
    }

    private static void fieldNothing(Run run) {
        run.does("make", 0, 4, 0);
        run.fields(0, -1, -1, -1, -1);
        run.does("set", 0, 1, 0);
        run.does("set", 0, 2, 7);
        run.fields(0, -1, 0, -1, -1);
        run.does("collect", 2, 0);
        run.fields(0, -1, 0, -1, -1);
    }

    private static void fieldOfNothing(Run run) {
        run.does("make", 0, 1, 0);
        for (int r = 1; r < 8; r++) {
            run.refused(Run.ELEMENT, "field", r, 0);
        }
        run.does("clear", 0);
        run.refused(Run.ELEMENT, "field", 0, 0);
    }

    private static void fieldMissing(Run run) {
        for (int n = 0; n <= 4; n++) {
            run.does("make", n, n, n);
        }
        run.does("make", 5, 4, 5);
        for (int n = 0; n <= 4; n++) {
            int[] wrong = {Run.LOW, -3, -2, -1, n, n + 1, n + 3, 256, Run.HIGH - 2, Run.HIGH};
            run.refusedForEach(Run.INDEX, wrong, "field", 1, n, 0);
        }
    }

    private static void sameObject(Run run) {
        run.does("make", 0, 1, 5);
        run.does("make", 1, 1, 5);
        run.does("copy", 0, 7);
        run.due(true, "same", 0, 7);
        run.due(true, "same", 7, 0);
        run.due(true, "same", 1, 1);
        run.due(false, "same", 0, 1);
        run.due(false, "same", 1, 7);
        run.does("set", 1, 0, 0);
        run.does("get", 1, 0, 1);
        run.due(true, "same", 0, 1);
    }

    private static void sameAfterACollection(Run run) {
        makeInAll(run);
        run.does("copy", 6, 7);
        run.does("clear", 0);
        run.due(2, "collect", 4, 9);
        for (int r = 0; r < 8; r++) {
            for (int q = 0; q < 8; q++) {
                run.due(r == q || r + q == 13, "same", r, q);
            }
        }
    }

    private static void sameNothing(Run run) {
        run.due(true, "same", 0, 7);
        run.due(true, "same", 7, 7);
        run.does("make", 0, 0, 0);
        run.due(false, "same", 0, 7);
        run.due(false, "same", 7, 0);
        run.does("clear", 0);
        run.due(true, "same", 0, 7);
    }

    private static void reachItself(Run run) {
        run.does("make", 0, 0, 0);
        run.due(1, "reach", 0);
        run.does("make", 1, 2, 0);
        run.due(1, "reach", 1);
        run.does("set", 1, 0, 1);
        run.does("set", 1, 1, 1);
        run.due(1, "reach", 1);
    }

    /** No more than 60 can be reached, since each but the first takes a field of another. */
    private static void reachAFullStore(Run run) {
        run.makeChain();
        run.due(240, "figure", 0);
        run.due(60, "reach", 0);
        run.due(1, "reach", 1);
        run.does("set", 1, 0, 0);
        run.due(60, "reach", 0);
        run.due(60, "reach", 1);
        run.does("collect", 4, 5);
        run.due(60, "reach", 0);
    }

    private static void reachEachOnce(Run run) {
        for (int r = 0; r < 5; r++) {
            run.does("make", r, 4, 0);
        }
        run.due(1, "reach", 0);
        for (int r = 0; r < 4; r++) {
            for (int f = 0; f < 4; f++) {
                run.does("set", r, f, r == 3 ? 4 : 1 + (r + f) % 3);
            }
        }
        run.due(5, "reach", 0);
        run.due(4, "reach", 1);
        run.due(4, "reach", 2);
        run.due(2, "reach", 3);
        run.due(1, "reach", 4);
    }

    private static void reachAfterAChange(Run run) {
        run.does("make", 0, 1, 0);
        run.does("make", 1, 1, 0);
        run.does("watch", 0, 1);
        run.due(1, "reach", 0);
        run.does("set", 0, 0, 1);
        run.due(2, "reach", 0);
        run.does("clear", 1);
        run.due(2, "reach", 0);
        run.does("set", 0, 0, 1);
        run.due(1, "reach", 0);
    }

    private static void reachChangesNothing(Run run) {
        makeInAll(run);
        run.does("make", 0, 2, 0);
        run.does("set", 0, 1, 7);
        run.does("watch", 0, 1);
        run.does("clear", 1);
        String before = run.story();
        run.due(2, "reach", 0);
        run.due(0, "reach", 1);
        run.check("all that can be seen", run.story(), before);
    }

    private static void reachNothing(Run run) {
        for (int r = 0; r < 8; r++) {
            run.due(0, "reach", r);
            run.does("make", r, 0, 0);
            run.due(1, "reach", r);
            run.does("clear", r);
            run.due(0, "reach", r);
        }
    }

    /** Object r in register r, for each r. */
    private static void makeInAll(Run run) {
        for (int r = 0; r < 8; r++) {
            run.due(r, "make", r, r % 5, 100 + r);
        }
    }
}
