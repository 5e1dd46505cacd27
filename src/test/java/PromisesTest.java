/** Each promise of the document on its own: ordinary inputs, its edges, and wrong inputs. */
public final class PromisesTest {

    private static final String ARGUMENT = "throws.IllegalArgumentException";
    private static final String STATE = "throws.IllegalStateException";
    private static final String ELEMENT = "throws.NoSuchElementException";
    private static final String INDEX = "throws.IndexOutOfBoundsException";

    private static final int[] NO_REGISTERS = {Integer.MIN_VALUE, -1, 8, Integer.MAX_VALUE};
    private static final int[] NO_WEAK_ONES = {Integer.MIN_VALUE, -1, 4, 7, Integer.MAX_VALUE};
    private static final int[] NOT_0_TO_3 = {Integer.MIN_VALUE, -1, 4, Integer.MAX_VALUE};

    private final Checks checks = new Checks();

    public static void main(String[] args) {
        PromisesTest test = new PromisesTest();
        test.promise1NewObject();
        test.promise2Make();
        test.promise2Room();
        test.promise3Set();
        test.promise4Get();
        test.promise5Copy();
        test.promise6Clear();
        test.promise7Write();
        test.promise8Watch();
        test.promise9Revive();
        test.promise10Watched();
        test.promise11About();
        test.promise12Field();
        test.promise13Same();
        test.promise14Reach();
        test.promise15CollectLetsGo();
        test.promise15CollectWeak();
        test.promise15CollectKeepsShape();
        test.promise15WorkersAndTurns();
        test.promise15CollectFullStore();
        test.promise15WrongWorkers();
        test.promise16Figure();
        test.yardsAreApart();
        test.checks.finish();
    }

    private void promise1NewObject() {
        ForwardYard yard = new ForwardYard();
        for (int k = 0; k < 4; k++) {
            checks.due("new: figure(" + k + ")", yard.figure(k), 0);
        }
        for (int r = 0; r < 8; r++) {
            checks.due("new: reach(" + r + ")", yard.reach(r), 0);
            checks.due("new: same(0, " + r + ")", yard.same(0, r), true);
            checks.due("new: clear(" + r + ")", yard.clear(r), false);
        }
        for (int w = 0; w < 4; w++) {
            checks.due("new: watched(" + w + ")", yard.watched(w), -1);
        }
        checks.due("new: collect(4, 1)", yard.collect(4, 1), 0);
    }

    private void promise2Make() {
        ForwardYard yard = new ForwardYard();
        int[] values = {Integer.MIN_VALUE, -1, 0, 1, Integer.MAX_VALUE};
        for (int fields = 0; fields <= 4; fields++) {
            checks.due("make", yard.make(7 - fields, fields, values[fields]), fields);
            checkObject(yard, 7 - fields, fields, values[fields], 0, fields);
            for (int f = 0; f < fields; f++) {
                checks.due("make: field " + f, yard.field(7 - fields, f), -1);
            }
        }
        checks.due("make over another", yard.make(7, 1, 5), 5);
        checkObject(yard, 7, 5, 5, 0, 1);
        checks.due("make over another: objects", yard.figure(1), 6);
        String before = Checks.picture(yard);
        for (int r : NO_REGISTERS) {
            checks.due("make(" + r + ", 0, 0)", Checks.answer(() -> yard.make(r, 0, 0)), ARGUMENT);
        }
        for (int n : new int[] {Integer.MIN_VALUE, -1, 5, Integer.MAX_VALUE}) {
            checks.due("make(0, " + n + ", 0)", Checks.answer(() -> yard.make(0, n, 0)), ARGUMENT);
        }
        checks.due("make: picture", Checks.picture(yard), before);
    }

    private void promise2Room() {
        ForwardYard yard = new ForwardYard();
        for (int i = 0; i < 34; i++) {
            checks.due("make", yard.make(i % 8, 4, i), i);
        }
        checks.due("238 words", yard.figure(0), 238);
        String before = Checks.picture(yard);
        checks.due("make at 238", Checks.answer(() -> yard.make(0, 0, 0)), STATE);
        checks.due("make at 238", Checks.answer(() -> yard.make(0, 4, 0)), STATE);
        checks.due("wrong register first", Checks.answer(() -> yard.make(8, 0, 0)), ARGUMENT);
        checks.due("wrong fields first", Checks.answer(() -> yard.make(0, 5, 0)), ARGUMENT);
        checks.due("room: picture", Checks.picture(yard), before);
        checks.due("let go", yard.collect(2, 3), 26);
        checks.due("make after it", yard.make(0, 4, 0), 34);

        ForwardYard small = new ForwardYard();
        for (int i = 0; i < 80; i++) {
            checks.due("make small", small.make(0, 0, i), i);
        }
        checks.due("240 words", small.figure(0), 240);
        checks.due("make at 240", Checks.answer(() -> small.make(1, 0, 0)), STATE);
        checks.due("80 objects", small.figure(1), 80);
        checks.due("80 made", small.figure(3), 80);
        checks.due("79 let go", small.collect(1, 0), 79);
        checks.due("the last one stays", small.about(0, 0), 79);
    }

    private void promise3Set() {
        ForwardYard yard = new ForwardYard();
        yard.make(0, 4, 0);
        yard.make(1, 1, 0);
        for (int f = 0; f < 4; f++) {
            yard.set(0, f, 1);
            checks.due("set " + f, yard.field(0, f), 1);
            checks.due("set " + f + ": the next", f < 3 ? yard.field(0, f + 1) : -1, -1);
        }
        yard.set(0, 2, 0);
        checks.due("set to itself", yard.field(0, 2), 0);
        yard.set(0, 2, 5);
        checks.due("set to nothing", yard.field(0, 2), -1);
        checks.due("set leaves its neighbour", yard.field(0, 1), 1);
        checks.due("set leaves its neighbour", yard.field(0, 3), 1);
        checks.due("set leaves the other", yard.field(1, 0), -1);

        String before = Checks.picture(yard);
        for (int r : NO_REGISTERS) {
            checks.due("set: " + r, Checks.outcome(() -> yard.set(r, 0, 1)), ARGUMENT);
            checks.due("set from " + r, Checks.outcome(() -> yard.set(0, 0, r)), ARGUMENT);
            checks.due("set: argument first", Checks.outcome(() -> yard.set(5, 9, r)), ARGUMENT);
        }
        checks.due("set: nothing there", Checks.outcome(() -> yard.set(5, 0, 1)), ELEMENT);
        checks.due("set: element first", Checks.outcome(() -> yard.set(5, 4, 1)), ELEMENT);
        for (int f : NOT_0_TO_3) {
            checks.due("set: field " + f, Checks.outcome(() -> yard.set(0, f, 1)), INDEX);
        }
        checks.due("set: one field", Checks.outcome(() -> yard.set(1, 1, 1)), INDEX);
        checks.due("set: picture", Checks.picture(yard), before);
    }

    private void promise4Get() {
        ForwardYard yard = new ForwardYard();
        yard.make(0, 2, 0);
        yard.make(1, 0, 0);
        yard.set(0, 1, 1);
        yard.get(0, 1, 7);
        checks.due("get", yard.about(7, 0), 1);
        checks.due("get: the field stays", yard.field(0, 1), 1);
        yard.get(0, 0, 7);
        checks.due("get nothing", yard.clear(7), false);
        yard.copy(0, 6);
        yard.get(6, 1, 6);
        checks.due("get into itself", yard.same(6, 1), true);

        String before = Checks.picture(yard);
        for (int r : NO_REGISTERS) {
            checks.due("get: " + r, Checks.outcome(() -> yard.get(r, 1, 2)), ARGUMENT);
            checks.due("get into " + r, Checks.outcome(() -> yard.get(0, 1, r)), ARGUMENT);
            checks.due("get: argument first", Checks.outcome(() -> yard.get(5, 9, r)), ARGUMENT);
        }
        checks.due("get: nothing there", Checks.outcome(() -> yard.get(5, 0, 1)), ELEMENT);
        checks.due("get: element first", Checks.outcome(() -> yard.get(5, -1, 1)), ELEMENT);
        for (int f : new int[] {Integer.MIN_VALUE, -1, 2, Integer.MAX_VALUE}) {
            checks.due("get: field " + f, Checks.outcome(() -> yard.get(0, f, 1)), INDEX);
        }
        checks.due("get: no fields", Checks.outcome(() -> yard.get(1, 0, 1)), INDEX);
        checks.due("get: picture", Checks.picture(yard), before);
    }

    private void promise5Copy() {
        ForwardYard yard = new ForwardYard();
        yard.make(0, 1, 3);
        yard.copy(0, 7);
        checks.due("copy", yard.about(7, 0), 0);
        yard.write(7, 4);
        checks.due("copy: one object", yard.about(0, 1), 4);
        yard.copy(0, 0);
        checks.due("copy to itself", yard.about(0, 0), 0);
        yard.copy(3, 7);
        checks.due("copy nothing", yard.reach(7), 0);
        checks.due("copy leaves the others", yard.reach(0), 1);
        String before = Checks.picture(yard);
        for (int r : NO_REGISTERS) {
            checks.due("copy from " + r, Checks.outcome(() -> yard.copy(r, 0)), ARGUMENT);
            checks.due("copy to " + r, Checks.outcome(() -> yard.copy(0, r)), ARGUMENT);
        }
        checks.due("copy: picture", Checks.picture(yard), before);
    }

    private void promise6Clear() {
        ForwardYard yard = new ForwardYard();
        yard.make(0, 0, 0);
        yard.copy(0, 7);
        checks.due("clear", yard.clear(7), true);
        checks.due("clear again", yard.clear(7), false);
        checks.due("clear: the other register", yard.reach(0), 1);
        checks.due("clear the last", yard.clear(0), true);
        checks.due("clear: the object is there", yard.figure(1), 1);
        for (int r : NO_REGISTERS) {
            checks.due("clear(" + r + ")", Checks.answer(() -> yard.clear(r)), ARGUMENT);
        }
    }

    private void promise7Write() {
        ForwardYard yard = new ForwardYard();
        yard.make(7, 1, 3);
        yard.set(7, 0, 7);
        checks.due("write", yard.write(7, Integer.MIN_VALUE), 3);
        checks.due("write", yard.write(7, Integer.MAX_VALUE), Integer.MIN_VALUE);
        checkObject(yard, 7, 0, Integer.MAX_VALUE, 0, 1);
        checks.due("write leaves the field", yard.field(7, 0), 0);
        String before = Checks.picture(yard);
        for (int r : NO_REGISTERS) {
            checks.due("write(" + r + ", 1)", Checks.answer(() -> yard.write(r, 1)), ARGUMENT);
        }
        checks.due("write: nothing there", Checks.answer(() -> yard.write(0, 1)), ELEMENT);
        checks.due("write: picture", Checks.picture(yard), before);
    }

    private void promise8Watch() {
        ForwardYard yard = new ForwardYard();
        yard.make(7, 0, 0);
        yard.make(6, 0, 0);
        for (int w = 0; w < 4; w++) {
            yard.watch(w, 6);
            checks.due("watch " + w, yard.watched(w), 1);
            checks.due("watch " + w + ": the next", w < 3 ? yard.watched(w + 1) : -1, -1);
        }
        yard.watch(3, 7);
        checks.due("watch another", yard.watched(3), 0);
        checks.due("watch leaves the others", yard.watched(2), 1);
        yard.watch(3, 0);
        checks.due("watch nothing", yard.watched(3), -1);
        String before = Checks.picture(yard);
        for (int w : NO_WEAK_ONES) {
            checks.due("watch: weak " + w, Checks.outcome(() -> yard.watch(w, 7)), ARGUMENT);
        }
        for (int r : NO_REGISTERS) {
            checks.due("watch: register " + r, Checks.outcome(() -> yard.watch(0, r)), ARGUMENT);
        }
        checks.due("watch: picture", Checks.picture(yard), before);
    }

    private void promise9Revive() {
        ForwardYard yard = new ForwardYard();
        yard.make(0, 0, 8);
        yard.watch(3, 0);
        yard.clear(0);
        yard.revive(3, 7);
        checks.due("revive", yard.about(7, 1), 8);
        checks.due("revive: still watched", yard.watched(3), 0);
        checks.due("revived in time", yard.collect(3, 12), 0);
        checks.due("revived: watched after it", yard.watched(3), 0);
        yard.revive(2, 7);
        checks.due("revive nothing", yard.clear(7), false);
        checks.due("a weak one keeps nothing", yard.collect(3, 12), 1);
        yard.revive(3, 7);
        checks.due("too late to revive", yard.clear(7), false);
        for (int w : NO_WEAK_ONES) {
            checks.due("revive: weak " + w, Checks.outcome(() -> yard.revive(w, 0)), ARGUMENT);
        }
        for (int r : NO_REGISTERS) {
            checks.due("revive: register " + r, Checks.outcome(() -> yard.revive(0, r)), ARGUMENT);
        }
    }

    private void promise10Watched() {
        ForwardYard yard = new ForwardYard();
        yard.make(0, 0, 8);
        yard.make(0, 0, 9);
        yard.watch(1, 0);
        checks.due("watched", yard.watched(1), 1);
        checks.due("watched: nothing", yard.watched(0), -1);
        yard.clear(0);
        checks.due("watched: before a collection", yard.watched(1), 1);
        for (int w : NO_WEAK_ONES) {
            checks.due("watched(" + w + ")", Checks.answer(() -> yard.watched(w)), ARGUMENT);
        }
    }

    private void promise11About() {
        ForwardYard yard = new ForwardYard();
        yard.make(1, 0, 0);
        yard.make(0, 3, -7);
        yard.collect(1, 0);
        yard.collect(2, 0);
        checkObject(yard, 0, 1, -7, 2, 3);
        yard.make(2, 2, 5);
        yard.collect(2, 0);
        checkObject(yard, 0, 1, -7, 3, 3);
        checkObject(yard, 2, 2, 5, 1, 2);
        for (int r : NO_REGISTERS) {
            checks.due("about(" + r + ", 0)", Checks.answer(() -> yard.about(r, 0)), ARGUMENT);
        }
        for (int what : NOT_0_TO_3) {
            checks.due("about: what " + what, Checks.answer(() -> yard.about(0, what)), ARGUMENT);
            checks.due("about: argument first", Checks.answer(() -> yard.about(5, what)), ARGUMENT);
        }
        for (int what = 0; what < 4; what++) {
            int which = what;
            checks.due("about nothing", Checks.answer(() -> yard.about(5, which)), ELEMENT);
        }
    }

    private void promise12Field() {
        ForwardYard yard = new ForwardYard();
        yard.make(1, 0, 0);
        yard.make(0, 3, 0);
        yard.set(0, 0, 0);
        yard.set(0, 2, 1);
        checks.due("field(0, 0)", yard.field(0, 0), 1);
        checks.due("field(0, 1)", yard.field(0, 1), -1);
        checks.due("field(0, 2)", yard.field(0, 2), 0);
        for (int r : NO_REGISTERS) {
            checks.due("field(" + r + ", 0)", Checks.answer(() -> yard.field(r, 0)), ARGUMENT);
        }
        checks.due("field: nothing there", Checks.answer(() -> yard.field(7, 0)), ELEMENT);
        checks.due("field: element first", Checks.answer(() -> yard.field(7, -1)), ELEMENT);
        for (int f : new int[] {Integer.MIN_VALUE, -1, 3, 4, Integer.MAX_VALUE}) {
            checks.due("field(0, " + f + ")", Checks.answer(() -> yard.field(0, f)), INDEX);
        }
        checks.due("field: no fields", Checks.answer(() -> yard.field(1, 0)), INDEX);
    }

    private void promise13Same() {
        ForwardYard yard = new ForwardYard();
        yard.make(0, 0, 5);
        yard.make(1, 0, 5);
        yard.copy(0, 7);
        checks.due("same: one object", yard.same(0, 7), true);
        checks.due("same: itself", yard.same(1, 1), true);
        checks.due("same: two alike", yard.same(0, 1), false);
        checks.due("same: object and nothing", yard.same(0, 2), false);
        checks.due("same: nothing and object", yard.same(2, 0), false);
        checks.due("same: nothing twice", yard.same(2, 3), true);
        yard.collect(2, 6);
        checks.due("same: after a collection", yard.same(0, 7), true);
        for (int r : NO_REGISTERS) {
            checks.due("same(" + r + ", 0)", Checks.answer(() -> yard.same(r, 0)), ARGUMENT);
            checks.due("same(0, " + r + ")", Checks.answer(() -> yard.same(0, r)), ARGUMENT);
        }
    }

    private void promise14Reach() {
        ForwardYard yard = new ForwardYard();
        makeChain(yard, 60);
        checks.due("reach: a chain", yard.reach(0), 60);
        checks.due("reach: again", yard.reach(0), 60);
        checks.due("reach: its end", yard.reach(1), 1);
        yard.set(1, 0, 0);
        checks.due("reach: a ring", yard.reach(1), 60);
        checks.due("reach: nothing", yard.reach(7), 0);

        ForwardYard diamond = new ForwardYard();
        diamond.make(0, 4, 0);
        diamond.make(1, 1, 0);
        diamond.make(2, 1, 0);
        diamond.make(3, 0, 0);
        diamond.set(0, 1, 1);
        diamond.set(0, 3, 2);
        diamond.set(0, 2, 0);
        diamond.set(1, 0, 3);
        diamond.set(2, 0, 3);
        checks.due("reach: each once", diamond.reach(0), 4);
        checks.due("reach: not backwards", diamond.reach(1), 2);
        checks.due("reach keeps the figures", diamond.figure(1), 4);
        for (int r : NO_REGISTERS) {
            checks.due("reach(" + r + ")", Checks.answer(() -> diamond.reach(r)), ARGUMENT);
        }
    }

    private void promise15CollectLetsGo() {
        ForwardYard yard = new ForwardYard();
        yard.make(0, 1, 0);
        yard.make(1, 1, 0);
        yard.set(0, 0, 1);
        yard.set(1, 0, 0);
        yard.make(2, 2, 0);
        yard.make(3, 0, 0);
        yard.set(2, 1, 3);
        yard.clear(0);
        yard.clear(3);
        checks.due("a ring is held by one register", yard.collect(4, 1), 0);
        yard.clear(1);
        checks.due("a ring that nobody holds", yard.collect(4, 2), 2);
        checks.due("words after it", yard.figure(0), 8);
        checks.due("objects after it", yard.figure(1), 2);
        checks.due("the field after it", yard.field(2, 1), 3);
        yard.get(2, 1, 3);
        checkObject(yard, 3, 3, 0, 2, 0);
        checks.due("numbers go on", yard.make(0, 0, 0), 4);
        checks.due("nothing more to let go", yard.collect(4, 2), 0);
        checkObject(yard, 0, 4, 0, 1, 0);
        checkObject(yard, 2, 2, 0, 3, 2);
        for (int r = 0; r < 8; r++) {
            yard.clear(r);
        }
        checks.due("all go", yard.collect(1, -1), 3);
        checks.due("no words", yard.figure(0), 0);
    }

    private void promise15CollectWeak() {
        ForwardYard yard = new ForwardYard();
        yard.make(0, 1, 0);
        yard.make(1, 0, 0);
        yard.make(2, 0, 0);
        yard.set(0, 0, 1);
        yard.watch(0, 0);
        yard.watch(1, 1);
        yard.watch(2, 2);
        yard.watch(3, 2);
        yard.clear(1);
        yard.clear(2);
        checks.due("only weakly held", yard.collect(2, 9), 1);
        checks.due("weak: held", yard.watched(0), 0);
        checks.due("weak: held by a field", yard.watched(1), 1);
        checks.due("weak: let go", yard.watched(2), -1);
        checks.due("weak: let go twice", yard.watched(3), -1);
        yard.revive(1, 6);
        checkObject(yard, 6, 1, 0, 1, 0);
        checks.due("weak: the moved object", yard.field(0, 0), yard.about(6, 0));
    }

    private void promise15CollectKeepsShape() {
        ForwardYard yard = new ForwardYard();
        yard.make(1, 0, 0);
        yard.make(0, 4, Integer.MIN_VALUE);
        yard.make(1, 3, Integer.MAX_VALUE);
        yard.set(0, 0, 1);
        yard.set(0, 2, 0);
        yard.set(1, 2, 0);
        yard.set(1, 1, 1);
        yard.copy(1, 7);
        for (int age = 1; age <= 20; age++) {
            checks.due("let go", yard.collect(1 + age % 4, age * 0x9E3779B9), age == 1 ? 1 : 0);
            checkObject(yard, 0, 1, Integer.MIN_VALUE, age, 4);
            checkObject(yard, 7, 2, Integer.MAX_VALUE, age, 3);
        }
        int[] first = {2, -1, 1, -1};
        int[] second = {-1, 2, 1};
        for (int f = 0; f < 4; f++) {
            checks.due("field of the first", yard.field(0, f), first[f]);
            checks.due("field of the second", f < 3 ? yard.field(1, f) : -1, f < 3 ? second[f] : -1);
        }
        checks.due("still one object", yard.same(1, 7), true);
        checks.due("collections", yard.figure(2), 20);
    }

    private void promise15WorkersAndTurns() {
        int[] orders = {0, 1, 2, 3, -1, 77, 0x55555555, 0x1B1B1B1B, Integer.MIN_VALUE, Integer.MAX_VALUE};
        String due = afterCollections(1, 0);
        for (int workers = 1; workers <= 4; workers++) {
            for (int turns : orders) {
                String told = workers + " workers, turns " + turns;
                checks.due(told, afterCollections(workers, turns), due);
            }
        }
    }

    /** A full store whose objects share one another, told after each of three collections. */
    private String afterCollections(int workers, int turns) {
        ForwardYard yard = new ForwardYard();
        StringBuilder told = new StringBuilder();
        for (int i = 0; i < 48; i++) {
            yard.make(7, 2, i * i);
            yard.set(7, 0, i % 5);
            yard.set(7, 1, (i * 3 + 1) % 5);
            yard.copy(7, i % 5);
        }
        for (int i = 0; i < 3; i++) {
            yard.watch(i, i + 1);
            yard.clear(i + 1);
            yard.get(4, i % 2, 4);
            told.append(yard.collect(workers, turns + i)).append(": ");
            told.append(Checks.picture(yard)).append('\n');
        }
        return told.toString();
    }

    private void promise15CollectFullStore() {
        ForwardYard yard = new ForwardYard();
        makeChain(yard, 60);
        checks.due("full", yard.figure(0), 240);
        checks.due("full: nothing to let go", yard.collect(4, 0xC0FFEE), 0);
        checks.due("full: still", yard.figure(0), 240);
        checks.due("full: all reached", yard.reach(0), 60);
        yard.clear(1);
        for (int i = 0; i < 20; i++) {
            yard.get(0, 0, 0);
        }
        checks.due("the first 20 of a chain", yard.collect(3, -3), 20);
        checks.due("the rest of a chain", yard.reach(0), 40);
        checkObject(yard, 0, 39, 39, 2, 1);
        yard.clear(0);
        checks.due("the whole rest", yard.collect(3, -3), 40);
    }

    private void promise15WrongWorkers() {
        ForwardYard yard = new ForwardYard();
        yard.make(0, 1, 1);
        yard.make(0, 1, 2);
        String before = Checks.picture(yard);
        for (int workers : new int[] {Integer.MIN_VALUE, -1, 0, 5, Integer.MAX_VALUE}) {
            String told = "collect(" + workers + ", 0)";
            checks.due(told, Checks.answer(() -> yard.collect(workers, 0)), ARGUMENT);
        }
        checks.due("collect: picture", Checks.picture(yard), before);
    }

    private void promise16Figure() {
        ForwardYard yard = new ForwardYard();
        for (int fields = 0; fields <= 4; fields++) {
            yard.make(0, fields, 0);
        }
        checkFigures(yard, 25, 5, 0, 5);
        yard.collect(1, 0);
        checkFigures(yard, 7, 1, 1, 5);
        yard.make(1, 2, 0);
        checkFigures(yard, 12, 2, 1, 6);
        yard.collect(1, 0);
        checkFigures(yard, 12, 2, 2, 6);
        for (int k : NOT_0_TO_3) {
            checks.due("figure(" + k + ")", Checks.answer(() -> yard.figure(k)), ARGUMENT);
        }
    }

    private void yardsAreApart() {
        ForwardYard one = new ForwardYard();
        ForwardYard other = new ForwardYard();
        one.make(0, 1, 1);
        one.watch(0, 0);
        one.collect(2, 2);
        checks.due("the other yard", Checks.picture(other), Checks.picture(new ForwardYard()));
    }

    /** Numbers from the end: register 0 refers to the chain's first object, register 1 to its last. */
    private static void makeChain(ForwardYard yard, int length) {
        yard.make(0, 1, 0);
        yard.copy(0, 1);
        for (int i = 1; i < length; i++) {
            yard.copy(0, 2);
            yard.make(0, 1, i);
            yard.set(0, 0, 2);
        }
        yard.clear(2);
    }

    private void checkObject(ForwardYard yard, int r, int number, int value, int age, int fields) {
        int[] want = {number, value, age, fields};
        for (int what = 0; what < 4; what++) {
            checks.due("about(" + r + ", " + what + ")", yard.about(r, what), want[what]);
        }
    }

    private void checkFigures(ForwardYard yard, int words, int objects, int collections, int made) {
        int[] want = {words, objects, collections, made};
        for (int k = 0; k < 4; k++) {
            checks.due("figure(" + k + ")", yard.figure(k), want[k]);
        }
    }
}
