import java.util.Arrays;

/** Promises 2 to 7, which make and change objects and registers, sentence by sentence. */
public final class ObjectsTest {

    private static final int[] EDGES = {Run.LOW, Run.LOW + 1, -1, 0, 1, Run.HIGH - 1, Run.HIGH};

    public static void main(String[] args) {
        Sentences all = new Sentences();
        make(all);
        makeRefused(all);
        set(all);
        get(all);
        copyClearWrite(all);
        all.finish();
    }

    private static void make(Sentences all) {
        String two = "promise 2";
        all.holds(two, "Makes an object with so many fields", ObjectsTest::makeEachCount);
        all.holds(two, "which refer to nothing", ObjectsTest::makeRefersToNothing);
        all.holds(two, "which refer to nothing", ObjectsTest::makeWhereOthersWere);
        all.holds(two, "and a value", ObjectsTest::makeValue);
        all.holds(two, "its age 0", ObjectsTest::makeAge);
        all.holds(two, "its age 0", ObjectsTest::makeAgeWhereOldOnesWere);
        all.holds(two, "register r refers to it then", ObjectsTest::makeRegister);
        all.holds(two, "register r refers to it then", ObjectsTest::makeOverAnother);
        all.holds(two, "Its number.", ObjectsTest::makeNumber);
    }

    private static void makeRefused(Sentences all) {
        String two = "promise 2";
        String room = "illegal state: the words of all objects would be more than 240";
        all.holds(two, "Illegal argument: also if fields is not 0 .. 4", ObjectsTest::makeWrong);
        all.holds(two, room, ObjectsTest::makeToTheLastWord);
        all.holds(two, room, ObjectsTest::makeOneWordTooMany);
        all.holds(two, room, ObjectsTest::makeSmallerAfterRefused);
        all.holds(two, room, ObjectsTest::makeAfterLettingGo);
        all.holds(two, room, ObjectsTest::makeInAFullStoreOfReached);
    }

    private static void set(Sentences all) {
        String three = "promise 3";
        all.holds(three, "Field f of the object to which register r refers gets what register q "
            + "refers to", ObjectsTest::setEachField);
        all.holds(three, "Field f of the object to which register r refers gets what register q "
            + "refers to", ObjectsTest::setToItself);
        all.holds(three, "(an object or nothing)", ObjectsTest::setToNothing);
        all.holds(three, "no such element: r refers to nothing", ObjectsTest::setOfNothing);
        all.holds(three, "index out of bounds: the object has no field f", ObjectsTest::setNoField);
    }

    private static void get(Sentences all) {
        String four = "promise 4";
        String gets = "Register q gets what field f of the object refers to, to which register r "
            + "refers.";
        all.holds(four, gets, ObjectsTest::getEachField);
        all.holds(four, gets, ObjectsTest::getNothing);
        all.holds(four, gets, ObjectsTest::getIntoItself);
        all.holds(four, "no such element: r refers to nothing", ObjectsTest::getOfNothing);
        all.holds(four, "index out of bounds: the object has no field f", ObjectsTest::getNoField);
    }

    private static void copyClearWrite(Sentences all) {
        String copies = "Register q gets what register r refers to.";
        all.holds("promise 5", copies, ObjectsTest::copyEachPair);
        all.holds("promise 5", copies, ObjectsTest::copyNothing);
        all.holds("promise 5", copies, ObjectsTest::copyMakesNoObject);
        all.holds("promise 6", "Register r refers to nothing", ObjectsTest::clearEach);
        all.holds("promise 6", "Register r refers to nothing", ObjectsTest::clearLetsNothingGo);
        all.holds("promise 6", "whether it referred to an object", ObjectsTest::clearAnswers);
        String writes = "The object to which register r refers gets a value: its old one.";
        all.holds("promise 7", writes, ObjectsTest::writeEdges);
        all.holds("promise 7", writes, ObjectsTest::writeOneObject);
        all.holds("promise 7", "no such element: r refers to nothing", ObjectsTest::writeNothing);
    }

    private static void makeEachCount(Run run) {
        for (int n = 0; n <= 4; n++) {
            run.does("make", n, n, 0);
            run.due(n, "about", n, 3);
        }
    }

    private static void makeRefersToNothing(Run run) {
        run.does("make", 0, 4, 0);
        run.fields(0, -1, -1, -1, -1);
        run.due(1, "reach", 0);
        run.does("make", 0, 1, 0);
        run.fields(0, -1);
    }

    /** The room of objects that were let go is used again, but nothing of them may be seen. */
    private static void makeWhereOthersWere(Run run) {
        for (int round = 0; round < 3; round++) {
            for (int i = 0; i < 6; i++) {
                run.does("make", i, 4, -1);
                for (int f = 0; f < 4; f++) {
                    run.due(-1, "field", i, f);
                    run.does("set", i, f, i / 2);
                }
            }
            for (int i = 0; i < 6; i++) {
                run.does("clear", i);
            }
            run.due(6, "collect", 1, 0);
        }
    }

    private static void makeValue(Run run) {
        for (int value : EDGES) {
            run.does("make", 0, 2, value);
            run.due(value, "about", 0, 1);
        }
    }

    private static void makeAge(Run run) {
        run.does("make", 0, 1, 7);
        run.due(0, "about", 0, 2);
        for (int i = 0; i < 5; i++) {
            run.does("collect", 1, 0);
        }
        run.does("make", 1, 1, 7);
        run.due(0, "about", 1, 2);
        run.due(5, "about", 0, 2);
    }

    private static void makeAgeWhereOldOnesWere(Run run) {
        for (int round = 0; round < 3; round++) {
            for (int r = 0; r < 3; r++) {
                run.does("make", r, r, 7);
                run.due(0, "about", r, 2);
            }
            for (int i = 0; i < 3; i++) {
                run.due(0, "collect", 1, 0);
            }
            for (int r = 0; r < 3; r++) {
                run.does("clear", r);
            }
            run.due(3, "collect", 1, 0);
        }
    }

    private static void makeRegister(Run run) {
        for (int r = 0; r < 8; r++) {
            Run one = run.another();
            int[] numbers = {-1, -1, -1, -1, -1, -1, -1, -1};
            numbers[r] = 0;
            one.does("make", r, 1, 0);
            one.registers(numbers);
            one.weakRegisters(-1, -1, -1, -1);
        }
    }

    private static void makeOverAnother(Run run) {
        run.does("make", 0, 1, 5);
        run.does("copy", 0, 1);
        run.does("make", 0, 1, 6);
        run.object(0, 1, 6, 0, 1);
        run.object(1, 0, 5, 0, 1);
        run.does("make", 1, 0, 7);
        run.due(3, "figure", 1);
        run.due(1, "collect", 1, 0);
    }

    private static void makeNumber(Run run) {
        for (int number = 0; number < 20; number++) {
            run.due(number, "make", number % 8, number % 5, 100 - number);
            run.due(number, "about", number % 8, 0);
        }
    }

    /** Among the counts such as look right if only some bits or the sum with 3 are looked at. */
    private static void makeWrong(Run run) {
        int[] wrong = {Run.LOW, Run.LOW + 3, -8, -4, -3, -2, -1, 5, 6, 7, 8, 9, 256, 1 << 29,
            Run.HIGH - 3, Run.HIGH - 2, Run.HIGH};
        run.does("make", 0, 1, 5);
        run.refusedForEach(Run.ARGUMENT, wrong, "make", 1, 0, 0, 0);
        run.due(1, "make", 0, 0, 0);
        run.due(2, "make", 0, 4, 0);
    }

    private static void makeToTheLastWord(Run run) {
        for (int n = 0; n <= 4; n++) {
            Run one = run.another();
            fill(one, 0, 240 - (n + 3));
            one.does("make", 7, n, 5);
            one.due(240, "figure", 0);
            one.due(n, "about", 7, 3);
            one.due(5, "about", 7, 1);
            one.refused(Run.STATE, "make", 7, 0, 0);
        }
    }

    private static void makeOneWordTooMany(Run run) {
        for (int n = 0; n <= 4; n++) {
            Run one = run.another();
            fill(one, 0, 241 - (n + 3));
            one.refused(Run.STATE, "make", 7, n, 5);
            one.refused(Run.STATE, "make", 0, n, 5);
            one.due(241 - (n + 3), "figure", 0);
        }
    }

    private static void makeSmallerAfterRefused(Run run) {
        int number = fill(run, 0, 236);
        run.refused(Run.STATE, "make", 0, 4, 0);
        run.refused(Run.STATE, "make", 0, 2, 0);
        run.due(number, "make", 0, 1, 0);
        run.due(240, "figure", 0);
        run.refused(Run.STATE, "make", 0, 0, 0);
    }

    private static void makeAfterLettingGo(Run run) {
        int number = fill(run, 0, 240);
        run.refused(Run.STATE, "make", 1, 0, 0);
        run.does("clear", 0);
        run.refused(Run.STATE, "make", 1, 0, 0);
        run.due(number, "collect", 1, 0);
        run.due(number, "make", 1, 0, 0);
        fill(run, 3, 240);
        run.refused(Run.STATE, "make", 1, 0, 0);
    }

    private static void makeInAFullStoreOfReached(Run run) {
        for (int i = 0; i < 48; i++) {
            run.does("make", 1, 2, i);
            run.does("set", 1, 0, 0);
            run.does("copy", 1, 0);
        }
        run.due(0, "collect", 4, 4);
        run.refused(Run.STATE, "make", 1, 0, 0);
        run.due(48, "reach", 0);
    }

    private static void setEachField(Run run) {
        for (int n = 1; n <= 4; n++) {
            Run one = run.another();
            int[] numbers = new int[n];
            Arrays.fill(numbers, -1);
            one.does("make", 0, n, 0);
            one.does("make", 1, 4, 0);
            for (int f = n - 1; f >= 0; f--) {
                one.does("make", 2, 0, 0);
                one.does("set", 0, f, 2);
                numbers[f] = 1 + n - f;
                one.fields(0, numbers);
            }
            one.fields(1, -1, -1, -1, -1);
        }
    }

    private static void setToItself(Run run) {
        run.does("make", 0, 2, 0);
        run.does("set", 0, 1, 0);
        run.fields(0, -1, 0);
        run.does("copy", 0, 7);
        run.does("set", 7, 0, 0);
        run.fields(0, 0, 0);
        run.due(1, "reach", 0);
    }

    private static void setToNothing(Run run) {
        run.does("make", 0, 3, 0);
        for (int f = 0; f < 3; f++) {
            run.does("set", 0, f, 0);
        }
        run.does("set", 0, 1, 7);
        run.fields(0, 0, -1, 0);
        run.does("set", 0, 1, 7);
        run.fields(0, 0, -1, 0);
    }

    private static void setOfNothing(Run run) {
        run.refused(Run.ELEMENT, "set", 0, 0, 0);
        run.does("make", 0, 1, 0);
        for (int r = 1; r < 8; r++) {
            run.refused(Run.ELEMENT, "set", r, 0, 0);
        }
        run.does("clear", 0);
        run.refused(Run.ELEMENT, "set", 0, 0, 0);
    }

    private static void setNoField(Run run) {
        eachMissingField(run, "set", 7);
    }

    private static void getEachField(Run run) {
        run.does("make", 0, 4, 0);
        for (int f = 0; f < 4; f++) {
            run.does("make", 1, 0, 0);
            run.does("set", 0, f, 1);
        }
        for (int f = 0; f < 4; f++) {
            run.does("get", 0, f, 7 - f);
        }
        run.registers(0, 4, -1, -1, 4, 3, 2, 1);
        run.fields(0, 1, 2, 3, 4);
    }

    private static void getNothing(Run run) {
        run.does("make", 0, 2, 0);
        run.does("make", 1, 0, 0);
        run.does("get", 0, 1, 1);
        run.registers(0, -1);
        run.does("get", 0, 0, 1);
        run.registers(0, -1);
    }

    private static void getIntoItself(Run run) {
        run.does("make", 0, 2, 0);
        run.does("make", 1, 0, 0);
        run.does("set", 0, 1, 1);
        run.does("copy", 0, 2);
        run.does("get", 0, 1, 0);
        run.registers(1, 1, 0);
        run.does("get", 2, 0, 2);
        run.registers(1, 1, -1);
    }

    private static void getOfNothing(Run run) {
        run.does("make", 0, 1, 0);
        run.does("set", 0, 0, 0);
        for (int r = 1; r < 8; r++) {
            run.refused(Run.ELEMENT, "get", r, 0, 0);
        }
        run.does("clear", 0);
        run.refused(Run.ELEMENT, "get", 0, 0, 0);
    }

    private static void getNoField(Run run) {
        eachMissingField(run, "get", 7);
    }

    private static void copyEachPair(Run run) {
        for (int r = 0; r < 8; r++) {
            for (int q = 0; q < 8; q++) {
                Run one = run.another();
                int[] numbers = {-1, -1, -1, -1, -1, -1, -1, -1};
                one.does("make", q, 0, 0);
                one.does("make", r, 0, 0);
                one.does("copy", r, q);
                numbers[r] = 1;
                numbers[q] = 1;
                one.registers(numbers);
            }
        }
    }

    private static void copyNothing(Run run) {
        run.does("make", 1, 0, 0);
        run.does("copy", 0, 1);
        run.registers(-1, -1);
        run.does("copy", 0, 1);
        run.does("copy", 0, 0);
        run.registers(-1, -1);
    }

    private static void copyMakesNoObject(Run run) {
        run.does("make", 0, 1, 3);
        run.does("copy", 0, 7);
        run.figures(4, 1, 0, 1);
        run.does("write", 7, 4);
        run.due(4, "about", 0, 1);
        run.does("set", 0, 0, 7);
        run.due(0, "field", 7, 0);
    }

    private static void clearEach(Run run) {
        for (int r = 0; r < 8; r++) {
            Run one = run.another();
            int[] numbers = new int[8];
            one.does("make", 0, 0, 0);
            for (int q = 1; q < 8; q++) {
                one.does("copy", 0, q);
            }
            one.does("clear", r);
            numbers[r] = -1;
            one.registers(numbers);
        }
    }

    private static void clearLetsNothingGo(Run run) {
        run.does("make", 0, 1, 5);
        run.does("make", 1, 1, 6);
        run.does("set", 1, 0, 0);
        run.does("watch", 0, 1);
        run.does("clear", 1);
        run.figures(8, 2, 0, 2);
        run.weakRegisters(1);
        run.does("revive", 0, 1);
        run.object(1, 1, 6, 0, 1);
        run.fields(1, 0);
    }

    private static void clearAnswers(Run run) {
        for (int r = 0; r < 8; r++) {
            run.due(false, "clear", r);
            run.does("make", r, 0, 0);
            run.due(true, "clear", r);
            run.due(false, "clear", r);
        }
    }

    private static void writeEdges(Run run) {
        int old = 3;
        run.does("make", 7, 1, old);
        run.does("set", 7, 0, 7);
        for (int value : EDGES) {
            run.due(old, "write", 7, value);
            run.due(value, "write", 7, value);
            run.object(7, 0, value, 0, 1);
            run.fields(7, 0);
            old = value;
        }
    }

    private static void writeOneObject(Run run) {
        run.does("make", 0, 0, 1);
        run.does("make", 1, 0, 1);
        run.does("make", 2, 0, 1);
        run.does("copy", 1, 7);
        run.due(1, "write", 7, 2);
        run.object(0, 0, 1, 0, 0);
        run.object(1, 1, 2, 0, 0);
        run.object(2, 2, 1, 0, 0);
        run.does("collect", 1, 0);
        run.due(2, "write", 1, 3);
        run.due(3, "about", 7, 1);
    }

    private static void writeNothing(Run run) {
        run.does("make", 0, 0, 5);
        for (int r = 1; r < 8; r++) {
            run.refused(Run.ELEMENT, "write", r, 6);
        }
        run.does("clear", 0);
        run.refused(Run.ELEMENT, "write", 0, 6);
    }

    /** Objects of each field count side by side, so that a field too many would hit the next. */
    private static void eachMissingField(Run run, String call, int q) {
        run.does("make", q, 0, 5);
        for (int n = 0; n <= 4; n++) {
            run.does("make", n, n, n);
            for (int f = 0; f < n; f++) {
                run.does("set", n, f, n);
            }
        }
        run.does("make", 5, 4, 5);
        for (int n = 0; n <= 4; n++) {
            int[] wrong = {Run.LOW, -4, -3, -2, -1, n, n + 1, n + 3, 256, Run.HIGH - 2, Run.HIGH};
            run.refusedForEach(Run.INDEX, wrong, call, 1, n, 0, q);
        }
    }

    /** Makes objects in register 0 until so many words are taken; how many it made. */
    private static int fill(Run run, int from, int to) {
        int made = 0;
        int left = to - from;
        while (left >= 3) {
            int fields = left < 6 ? left - 3 : 0;
            run.does("make", 0, fields, 1);
            left -= fields + 3;
            made++;
        }
        return made;
    }
}
