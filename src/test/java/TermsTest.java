/** "What it is", "Terms" (but for refused calls, see RefusalsTest) and promise 1. */
public final class TermsTest {

    public static void main(String[] args) {
        Sentences all = new Sentences();
        whatItIs(all);
        objects(all);
        registers(all);
        all.holds("promise 1", "No objects.", TermsTest::noObjects);
        all.holds("promise 1", "No objects.", TermsTest::noObjectsOfAnotherYard);
        all.finish();
    }

    private static void whatItIs(Sentences all) {
        String life = "An object is used for at most 512 calls after it has been made";
        all.holds("what it is", life, TermsTest::oldToTheLastCall);
        all.holds("what it is", life, TermsTest::newToTheLastCall);
        all.holds("terms", "Those that can't be reached any more are let go by workers that copy "
            + "the others side by side", TermsTest::letGoAndStay);
        all.holds("terms", "in which turn they do that makes no difference to what is there",
            TermsTest::anyTurn);
    }

    private static void objects(Sentences all) {
        String numbered = "OBJECTS are numbered 0, 1, .. in the order in which they were made.";
        all.holds("terms", numbered, TermsTest::numbered);
        all.holds("terms", numbered, TermsTest::noNumberForARefusedOne);
        all.holds("terms", "an AGE (how many collections it was in the store for)", TermsTest::age);
        all.holds("terms", "FIELDS 0 .. n - 1, with n from 0 to 4", TermsTest::fieldsOfEachCount);
        all.holds("terms", "each of which refers to an object or to nothing", TermsTest::eachField);
        all.holds("terms", "Its WORDS are n + 3.", TermsTest::words);
        String room = "The words of all objects in the store are 240 or less.";
        all.holds("terms", room, TermsTest::room);
        all.holds("terms", room, TermsTest::roomTakenByTheUnreached);
        all.holds("terms", "An object is REACHED from an object, if it is that one, or is reached "
            + "from one to which a field of it refers.", TermsTest::reached);
    }

    private static void registers(Sentences all) {
        all.holds("terms", "REGISTERS are 0 .. 7", TermsTest::eightRegisters);
        all.holds("terms", "WEAK ones 0 .. 3", TermsTest::fourWeakOnes);
        all.holds("terms", "each refers to an object or to nothing, at first to nothing",
            TermsTest::atFirstNothing);
    }

    private static void noObjects(Run run) {
        run.figures(0, 0, 0, 0);
        run.due(0, "collect", 1, 0);
        run.due(0, "make", 0, 0, 0);
    }

    private static void noObjectsOfAnotherYard(Run run) {
        run.does("make", 0, 1, 1);
        run.does("watch", 0, 0);
        run.does("collect", 2, 2);
        Run other = run.another();
        other.figures(0, 0, 0, 0);
        other.registers(-1, -1, -1, -1, -1, -1, -1, -1);
        other.does("make", 0, 2, 2);
        run.object(0, 0, 1, 1, 1);
    }

    private static void oldToTheLastCall(Run run) {
        run.does("make", 3, 1, 9);
        run.does("set", 3, 0, 3);
        while (run.length() < 508) {
            run.due(0, "collect", 1 + run.length() % 4, run.length());
        }
        run.object(3, 0, 9, 506, 1);
    }

    private static void newToTheLastCall(Run run) {
        int made = 0;
        int collections = 0;
        while (run.length() < 508) {
            run.due(made, "make", 0, 0, -made);
            made++;
            if (made % 79 == 0) {
                run.due(made == 79 ? 78 : 79, "collect", 4, made);
                collections++;
            }
        }
        int objects = made - 79 * collections + 1;
        run.figures(3 * objects, objects, collections, made);
    }

    private static void letGoAndStay(Run run) {
        run.does("make", 0, 2, 10);
        run.does("make", 1, 1, 11);
        run.does("make", 2, 0, 12);
        run.does("set", 0, 1, 1);
        run.does("clear", 1);
        run.does("clear", 2);
        run.due(1, "collect", 4, 6);
        run.figures(9, 2, 1, 3);
        run.fields(0, -1, 1);
    }

    /** A full store whose objects share one another must look alike after any order of steps. */
    private static void anyTurn(Run run) {
        String due = storyAfterCollections(run.another(), 1, 0);
        int[] orders = {Run.LOW, -77, -1, 0, 1, 2, 3, 0x55555555, 0x1B1B1B1B, Run.HIGH};
        for (int workers = 1; workers <= 4; workers++) {
            for (int turns : orders) {
                Run turned = run.another();
                String got = storyAfterCollections(turned, workers, turns);
                turned.check(workers + " workers, turns " + turns, got, due);
            }
        }
    }

    private static String storyAfterCollections(Run run, int workers, int turns) {
        for (int i = 0; i < 48; i++) {
            run.does("make", 7, 2, i * i);
            run.does("set", 7, 0, i % 5);
            run.does("set", 7, 1, (i * 3 + 1) % 5);
            run.does("copy", 7, i % 5);
        }
        run.does("watch", 0, 1);
        run.does("watch", 3, 2);
        run.does("clear", 1);
        run.due(1, "collect", workers, turns);
        run.does("clear", 7);
        run.does("clear", 2);
        run.does("get", 3, 0, 3);
        run.does("get", 4, 1, 4);
        run.does("copy", 4, 0);
        run.does("collect", workers, turns + 1);
        return run.story();
    }

    private static void numbered(Run run) {
        for (int number = 0; number < 5; number++) {
            run.due(number, "make", 4 - number, number, 7);
        }
        run.registers(4, 3, 2, 1, 0);
        run.does("clear", 0);
        run.due(1, "collect", 1, 0);
        run.due(5, "make", 0, 4, 7);
        run.registers(5, 3, 2, 1, 0);
        for (int r = 0; r < 8; r++) {
            run.does("clear", r);
        }
        run.due(5, "collect", 1, 0);
        run.due(6, "make", 0, 0, 7);
    }

    private static void noNumberForARefusedOne(Run run) {
        run.due(0, "make", 0, 0, 0);
        run.refused(Run.ARGUMENT, "make", 8, 0, 0);
        run.refused(Run.ARGUMENT, "make", 0, 5, 0);
        run.due(1, "make", 0, 0, 0);
        for (int number = 2; number < 80; number++) {
            run.due(number, "make", 1, 0, 0);
        }
        run.refused(Run.STATE, "make", 2, 0, 0);
        run.due(78, "collect", 1, 0);
        run.due(80, "make", 2, 0, 0);
    }

    private static void age(Run run) {
        run.does("make", 0, 0, 0);
        run.due(0, "about", 0, 2);
        run.does("collect", 1, 0);
        run.does("make", 1, 0, 0);
        run.due(1, "about", 0, 2);
        run.due(0, "about", 1, 2);
        run.refused(Run.ARGUMENT, "collect", 0, 0);
        run.does("collect", 4, 0);
        run.due(2, "about", 0, 2);
        run.due(1, "about", 1, 2);
    }

    private static void fieldsOfEachCount(Run run) {
        for (int n = 0; n <= 4; n++) {
            run.does("make", n, n, 0);
            run.due(n, "about", n, 3);
            for (int f = 0; f < n; f++) {
                run.due(-1, "field", n, f);
            }
            run.refused(Run.INDEX, "field", n, -1);
            run.refused(Run.INDEX, "field", n, n);
        }
        run.refused(Run.ARGUMENT, "make", 5, -1, 0);
        run.refused(Run.ARGUMENT, "make", 5, 5, 0);
    }

    private static void eachField(Run run) {
        run.does("make", 0, 4, 0);
        run.does("make", 1, 4, 0);
        run.does("set", 0, 0, 1);
        run.does("set", 0, 3, 0);
        run.does("set", 1, 1, 0);
        run.fields(0, 1, -1, -1, 0);
        run.fields(1, -1, 0, -1, -1);
        run.does("set", 0, 0, 7);
        run.fields(0, -1, -1, -1, 0);
    }

    private static void words(Run run) {
        int words = 0;
        for (int n = 0; n <= 4; n++) {
            run.does("make", 0, n, 0);
            words += n + 3;
            run.due(words, "figure", 0);
        }
        run.does("collect", 1, 0);
        run.due(7, "figure", 0);
    }

    private static void room(Run run) {
        for (int n = 0; n <= 4; n++) {
            Run filled = run.another();
            int most = 240 / (n + 3);
            for (int i = 0; i < most; i++) {
                filled.due(i, "make", i % 8, n, i);
            }
            filled.refused(Run.STATE, "make", 0, n, 0);
            filled.refused(Run.STATE, "make", 0, 0, 0);
            filled.figures(most * (n + 3), most, 0, most);
        }
    }

    private static void roomTakenByTheUnreached(Run run) {
        for (int i = 0; i < 60; i++) {
            run.due(i, "make", 0, 1, i);
        }
        run.does("clear", 0);
        run.due(240, "figure", 0);
        run.refused(Run.STATE, "make", 0, 0, 0);
        run.due(60, "collect", 2, 2);
        run.due(60, "make", 0, 0, 0);
        run.due(3, "figure", 0);
    }

    private static void reached(Run run) {
        run.does("make", 0, 4, 0);
        run.due(1, "reach", 0);
        for (int f = 0; f < 4; f++) {
            run.does("make", 1, 1, 0);
            run.does("set", 0, f, 1);
            run.due(2 + 2 * f, "reach", 0);
            run.does("make", 2, 1, 0);
            run.does("set", 1, 0, 2);
            run.due(3 + 2 * f, "reach", 0);
            run.due(2, "reach", 1);
            run.due(1, "reach", 2);
        }
        run.does("set", 2, 0, 0);
        run.due(9, "reach", 2);
    }

    private static void eightRegisters(Run run) {
        for (int r = 0; r < 8; r++) {
            run.due(r, "make", r, 0, 10 + r);
        }
        run.registers(0, 1, 2, 3, 4, 5, 6, 7);
        run.refused(Run.ARGUMENT, "make", -1, 0, 0);
        run.refused(Run.ARGUMENT, "make", 8, 0, 0);
    }

    private static void fourWeakOnes(Run run) {
        for (int w = 0; w < 4; w++) {
            run.does("make", w, 0, 0);
            run.does("watch", w, w);
        }
        run.weakRegisters(0, 1, 2, 3);
        run.refused(Run.ARGUMENT, "watch", -1, 0);
        run.refused(Run.ARGUMENT, "watch", 4, 0);
    }

    private static void atFirstNothing(Run run) {
        run.registers(-1, -1, -1, -1, -1, -1, -1, -1);
        run.weakRegisters(-1, -1, -1, -1);
        for (int r = 0; r < 8; r++) {
            run.due(0, "reach", r);
            run.due(true, "same", 0, r);
            run.due(false, "clear", r);
        }
    }
}
