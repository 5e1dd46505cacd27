/** Promises 15 and 16, collections and figures, sentence by sentence. */
public final class CollectTest {

    private static final String PROMISE = "promise 15";
    private static final int[] ORDERS = {
        Run.LOW, -2, -1, 0, 1, 2, 3, 0x1E1E1E1E, 0x2D2D2D2D, 0x77777777, Run.HIGH};

    public static void main(String[] args) {
        Sentences all = new Sentences();
        letGo(all);
        stay(all);
        workersAndTurns(all);
        figure(all);
        all.finish();
    }

    private static void letGo(Sentences all) {
        String goes = "Lets all objects go that are not reached from one to which a register "
            + "refers";
        all.holds(PROMISE, goes, CollectTest::eachRegisterHolds);
        all.holds(PROMISE, goes, CollectTest::eachFieldHolds);
        all.holds(PROMISE, goes, CollectTest::aLongChain);
        all.holds(PROMISE, goes, CollectTest::aRing);
        all.holds(PROMISE, goes, CollectTest::theMostThatCanStay);
        all.holds(PROMISE, goes, CollectTest::whatOnlyTheUnreachedReach);
        all.holds(PROMISE, "(weak ones don't count)", CollectTest::weakOnesHoldNothing);
        String weak = "weak registers that refer to one of these refer to nothing then";
        all.holds(PROMISE, weak, CollectTest::weakToNothing);
        all.holds(PROMISE, weak, CollectTest::weakOnesOfTheOthers);
        all.holds(PROMISE, "How many were let go.", CollectTest::howManyOfFew);
        all.holds(PROMISE, "How many were let go.", CollectTest::howManyOfAFullStore);
    }

    private static void stay(Sentences all) {
        all.holds(PROMISE, "All others grow older by 1.", CollectTest::olderByOne);
        all.holds(PROMISE, "All others grow older by 1.", CollectTest::olderByOneOnManyWays);
        all.holds(PROMISE, "All others grow older by 1.", CollectTest::nothingElseOfThemChanges);
    }

    private static void workersAndTurns(Sentences all) {
        all.holds(PROMISE, "So many workers (1 .. 4) do it", CollectTest::moreWorkersThanObjects);
        all.holds(PROMISE, "So many workers (1 .. 4) do it", CollectTest::workersOfAFullStore);
        all.holds(PROMISE, "turns says in which order they take their steps, and makes no "
            + "difference", CollectTest::turnsMakeNoDifference);
        all.holds(PROMISE, "Illegal argument: workers is not 1 .. 4.", CollectTest::wrongWorkers);
    }

    private static void figure(Sentences all) {
        String sixteen = "promise 16";
        all.holds(sixteen, "k = 0: the words of all objects in the store",
            CollectTest::figureWords);
        all.holds(sixteen, "1: how many objects are there", CollectTest::figureObjects);
        all.holds(sixteen, "2: how many collections there were", CollectTest::figureCollections);
        all.holds(sixteen, "3: how many objects were made", CollectTest::figureMade);
        all.holds(sixteen, "Illegal argument: k is none of these.", CollectTest::figureWrong);
    }

    private static void eachRegisterHolds(Run run) {
        for (int r = 0; r < 8; r++) {
            Run one = run.another();
            for (int q = 0; q < 8; q++) {
                one.does("make", q, 1, 10 + q);
                one.does("set", q, 0, q);
            }
            for (int q = 0; q < 8; q++) {
                one.does(q == r ? "reach" : "clear", q);
            }
            one.due(7, "collect", 1 + r % 4, r);
            one.figures(4, 1, 1, 8);
            one.object(r, r, 10 + r, 1, 1);
            one.fields(r, r);
        }
    }

    private static void eachFieldHolds(Run run) {
        for (int n = 1; n <= 4; n++) {
            for (int f = 0; f < n; f++) {
                Run one = run.another();
                one.does("make", 0, n, 0);
                one.does("make", 1, 0, 0);
                one.does("make", 2, 0, 0);
                one.does("set", 0, f, 2);
                one.does("clear", 1);
                one.does("clear", 2);
                one.due(1, "collect", n, f);
                one.due(2, "field", 0, f);
                one.due(2, "reach", 0);
            }
        }
    }

    private static void aLongChain(Run run) {
        run.makeChain();
        run.does("clear", 1);
        run.does("clear", 2);
        run.due(0, "collect", 3, 1);
        run.due(60, "reach", 0);
        for (int i = 0; i < 20; i++) {
            run.does("get", 0, 0, 0);
        }
        run.due(20, "collect", 3, -3);
        run.due(40, "reach", 0);
        run.object(0, 39, 39, 2, 1);
        run.does("clear", 0);
        run.due(40, "collect", 3, -3);
        run.figures(0, 0, 3, 60);
    }

    private static void aRing(Run run) {
        run.makeChain();
        run.does("set", 1, 0, 0);
        run.does("clear", 1);
        run.due(0, "collect", 4, 1);
        run.does("clear", 0);
        run.due(60, "reach", 2);
        run.due(0, "collect", 4, 1);
        run.does("clear", 2);
        run.due(60, "collect", 4, 1);
        run.does("make", 0, 1, 0);
        run.does("set", 0, 0, 0);
        run.does("clear", 0);
        run.due(1, "collect", 4, 1);
    }

    /** Eight of those that stay need no field that refers to them: 62 * 3 + 54 words. */
    private static void theMostThatCanStay(Run run) {
        run.does("make", 0, 0, 0);
        for (int i = 0; i < 54; i++) {
            run.does("make", 1, 1, i);
            run.does("set", 1, 0, 0);
            run.does("copy", 1, 0);
        }
        for (int r = 1; r < 8; r++) {
            run.does("make", r, 0, r);
        }
        for (int workers = 1; workers <= 4; workers++) {
            run.due(0, "collect", workers, 0x39);
            run.figures(240, 62, workers, 62);
            run.due(55, "reach", 0);
        }
        run.registers(54, 55, 56, 57, 58, 59, 60, 61);
    }

    /** To refer to one that stays holds nobody. */
    private static void whatOnlyTheUnreachedReach(Run run) {
        run.does("make", 0, 1, 0);
        run.does("make", 1, 2, 0);
        run.does("make", 2, 0, 0);
        run.does("set", 1, 0, 0);
        run.does("set", 1, 1, 2);
        run.does("clear", 1);
        run.does("clear", 2);
        run.due(2, "collect", 2, 2);
        run.figures(4, 1, 1, 3);
    }

    private static void weakOnesHoldNothing(Run run) {
        for (int w = 0; w < 4; w++) {
            Run one = run.another();
            one.does("make", w, 1, 0);
            one.does("make", 7, 0, 0);
            one.does("set", w, 0, 7);
            one.does("watch", w, w);
            one.does("clear", w);
            one.does("clear", 7);
            one.due(2, "collect", w + 1, 0);
            one.figures(0, 0, 1, 2);
        }
    }

    private static void weakToNothing(Run run) {
        run.does("make", 0, 0, 0);
        run.does("make", 1, 0, 0);
        for (int w = 0; w < 4; w++) {
            run.does("watch", w, w % 2);
        }
        run.does("clear", 0);
        run.due(1, "collect", 2, 9);
        run.weakRegisters(-1, 1, -1, 1);
        run.does("clear", 1);
        run.due(1, "collect", 2, 9);
        run.weakRegisters(-1, -1, -1, -1);
        run.does("make", 0, 0, 0);
        run.does("make", 1, 0, 0);
        run.weakRegisters(-1, -1, -1, -1);
    }

    private static void weakOnesOfTheOthers(Run run) {
        run.does("make", 7, 4, 0);
        run.does("make", 0, 1, 0);
        run.does("make", 1, 0, 55);
        run.does("set", 0, 0, 1);
        run.does("watch", 0, 0);
        run.does("watch", 3, 1);
        run.does("clear", 1);
        run.does("clear", 7);
        run.due(1, "collect", 2, 9);
        run.weakRegisters(1, -1, -1, 2);
        run.does("revive", 3, 6);
        run.object(6, 2, 55, 1, 0);
        run.does("get", 0, 0, 5);
        run.due(true, "same", 5, 6);
    }

    private static void howManyOfFew(Run run) {
        run.due(0, "collect", 1, 0);
        run.does("make", 0, 4, 0);
        run.due(0, "collect", 1, 0);
        run.does("make", 0, 2, 0);
        run.due(1, "collect", 1, 0);
        run.due(0, "collect", 1, 0);
        run.does("clear", 0);
        run.due(1, "collect", 1, 0);
        run.due(0, "collect", 1, 0);
    }

    private static void howManyOfAFullStore(Run run) {
        for (int i = 0; i < 80; i++) {
            run.does("make", 0, 0, i);
        }
        run.due(79, "collect", 1, 0);
        for (int i = 0; i < 79; i++) {
            run.does("make", 0, 0, i);
        }
        run.due(240, "figure", 0);
        run.does("clear", 0);
        run.due(80, "collect", 4, 0);
        run.makeChain();
        run.due(0, "collect", 4, 0);
    }

    private static void olderByOne(Run run) {
        run.does("make", 0, 1, 0);
        run.due(0, "collect", 1, 0);
        run.does("make", 1, 0, 0);
        run.does("set", 0, 0, 1);
        run.does("clear", 1);
        for (int i = 1; i <= 30; i++) {
            run.due(0, "collect", 1 + i % 4, i);
            run.due(i + 1, "about", 0, 2);
            run.does("get", 0, 0, 1);
            run.due(i, "about", 1, 2);
            run.does("clear", 1);
        }
    }

    private static void olderByOneOnManyWays(Run run) {
        run.does("make", 0, 4, 0);
        run.does("make", 1, 4, 0);
        for (int f = 0; f < 4; f++) {
            run.does("set", 0, f, f % 2);
            run.does("set", 1, f, f % 2);
            run.does("watch", f, f % 2);
            run.does("copy", 0, 4 + f);
        }
        for (int workers = 1; workers <= 4; workers++) {
            run.due(0, "collect", workers, 0x1B);
            run.object(7, 0, 0, workers, 4);
            run.object(1, 1, 0, workers, 4);
        }
    }

    private static void nothingElseOfThemChanges(Run run) {
        run.does("make", 1, 3, 0);
        run.does("make", 0, 4, Run.LOW);
        run.does("make", 1, 3, Run.HIGH);
        run.does("set", 0, 0, 1);
        run.does("set", 0, 2, 0);
        run.does("set", 1, 2, 0);
        run.does("set", 1, 1, 1);
        run.does("copy", 1, 7);
        for (int age = 1; age <= 20; age++) {
            run.due(age == 1 ? 1 : 0, "collect", 1 + age % 4, age * 0x9E3779B9);
            run.object(0, 1, Run.LOW, age, 4);
            run.object(7, 2, Run.HIGH, age, 3);
        }
        run.fields(0, 2, -1, 1, -1);
        run.fields(1, -1, 2, 1);
        run.registers(1, 2, -1, -1, -1, -1, -1, 2);
    }

    private static void moreWorkersThanObjects(Run run) {
        for (int workers = 1; workers <= 4; workers++) {
            for (int turns : ORDERS) {
                Run one = run.another();
                one.due(0, "collect", workers, turns);
                one.does("make", 0, 1, 5);
                one.due(0, "collect", workers, turns);
                one.does("make", 1, 1, 6);
                one.does("set", 0, 0, 1);
                one.does("clear", 1);
                one.due(0, "collect", workers, turns);
                one.object(0, 0, 5, 2, 1);
                one.fields(0, 1);
                one.does("clear", 0);
                one.due(2, "collect", workers, turns);
                one.figures(0, 0, 4, 2);
            }
        }
    }

    private static void workersOfAFullStore(Run run) {
        for (int workers = 1; workers <= 4; workers++) {
            Run one = run.another();
            one.makeChain();
            one.due(0, "collect", workers, 0x39);
            one.figures(240, 60, 1, 60);
            one.due(60, "reach", 0);
            one.object(0, 59, 59, 1, 1);
            one.object(1, 0, 0, 1, 1);
        }
    }

    private static void turnsMakeNoDifference(Run run) {
        String due = storyOfACollection(run.another(), 1, 0);
        for (int workers = 1; workers <= 4; workers++) {
            for (int turns : ORDERS) {
                Run one = run.another();
                String got = storyOfACollection(one, workers, turns);
                one.check("all seen after collect(" + workers + ", " + turns + ")", got, due);
            }
        }
    }

    /** A tree that gives up a branch, two leaves of which another branch reaches too. */
    private static String storyOfACollection(Run run, int workers, int turns) {
        run.does("make", 0, 4, 0);
        for (int f = 0; f < 4; f++) {
            run.does("make", 1, 3, f);
            run.does("set", 0, f, 1);
            for (int g = 0; g < 3; g++) {
                run.does("make", 2 + g, 1, 10 * f + g);
                run.does("set", 1, g, 2 + g);
                run.does("set", 2 + g, 0, f);
            }
        }
        run.does("watch", 0, 4);
        run.does("get", 0, 2, 5);
        run.does("watch", 1, 5);
        run.does("set", 0, 2, 7);
        for (int r = 1; r < 6; r++) {
            run.does("clear", r);
        }
        run.due(2, "collect", workers, turns);
        for (int r = 1; r < 5; r++) {
            run.does("get", 0, r - 1, r);
        }
        return run.story();
    }

    private static void wrongWorkers(Run run) {
        run.does("make", 0, 1, 1);
        run.does("make", 0, 1, 2);
        run.does("watch", 0, 0);
        int[] wrong = {Run.LOW, -4, -1, 0, 5, 6, 8, 256, 257, Run.HIGH};
        run.refusedForEach(Run.ARGUMENT, wrong, "collect", 0, 0, 0);
        run.refusedForEach(Run.ARGUMENT, wrong, "collect", 0, 0, -1);
        run.figures(8, 2, 0, 2);
        run.object(0, 1, 2, 0, 1);
        run.due(1, "collect", 1, 0);
    }

    private static void figureWords(Run run) {
        run.due(0, "figure", 0);
        for (int i = 0; i < 34; i++) {
            run.does("make", i % 8, 4, 0);
            run.due(7 * i + 7, "figure", 0);
        }
        run.refused(Run.STATE, "make", 0, 0, 0);
        run.does("clear", 0);
        run.due(238, "figure", 0);
        run.due(27, "collect", 1, 0);
        run.due(49, "figure", 0);
        run.does("make", 0, 0, 0);
        for (int i = 0; i < 3; i++) {
            run.due(0, "collect", 1, 0);
            run.due(52, "figure", 0);
        }
    }

    private static void figureObjects(Run run) {
        for (int i = 0; i < 80; i++) {
            run.due(i, "figure", 1);
            run.does("make", 0, 0, 0);
        }
        run.due(80, "figure", 1);
        run.refused(Run.STATE, "make", 0, 0, 0);
        run.does("clear", 0);
        run.due(80, "figure", 1);
        run.does("collect", 1, 0);
        run.due(0, "figure", 1);
    }

    private static void figureCollections(Run run) {
        run.due(0, "figure", 2);
        run.does("collect", 1, 0);
        run.due(1, "figure", 2);
        run.refused(Run.ARGUMENT, "collect", 0, 0);
        run.refused(Run.ARGUMENT, "collect", 5, 0);
        run.does("make", 0, 0, 0);
        run.due(1, "figure", 2);
        for (int i = 2; i < 50; i++) {
            run.does("collect", 4, i);
            run.due(i, "figure", 2);
        }
    }

    private static void figureMade(Run run) {
        run.due(0, "figure", 3);
        for (int i = 0; i < 40; i++) {
            run.does("make", 0, 3, 0);
            run.due(i + 1, "figure", 3);
        }
        run.refused(Run.STATE, "make", 0, 3, 0);
        run.refused(Run.ARGUMENT, "make", 0, 5, 0);
        run.does("clear", 0);
        run.does("collect", 1, 0);
        run.due(40, "figure", 3);
        run.does("make", 0, 3, 0);
        run.due(41, "figure", 3);
    }

    private static void figureWrong(Run run) {
        int[] wrong = {Run.LOW, -4, -1, 4, 5, 8, 256, Run.HIGH};
        run.refusedForEach(Run.ARGUMENT, wrong, "figure", 0, 0);
        run.does("make", 0, 0, 0);
        run.refusedForEach(Run.ARGUMENT, wrong, "figure", 0, 0);
    }
}
