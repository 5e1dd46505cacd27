import java.util.Arrays;
import java.util.NoSuchElementException;

/**
 * A store of objects that refer to one another. Those that can't be reached any more are let go by
 * workers that copy the others into a second space, each a little at a time.
 */
public final class ForwardYard {

    private static final int REGISTERS = 8;
    private static final int WEAK_REGISTERS = 4;
    private static final int MOST_FIELDS = 4;
    private static final int MOST_WORKERS = 4;
    private static final int MOST_WORDS = 240;

    /** What an object takes beside its fields; so no more than MOST_OBJECTS fit at once. */
    private static final int HEAD_WORDS = 3;
    private static final int MOST_OBJECTS = MOST_WORDS / HEAD_WORDS;

    /** Stands for "refers to nothing" where else the place or the number of an object stands. */
    private static final int NOTHING = -1;

    private final int[] registers = new int[REGISTERS];
    private final int[] weakRegisters = new int[WEAK_REGISTERS];
    private final Crew crew = new Crew();
    private final Walk walk = new Walk();

    /** The two spaces change roles at each collection. */
    private Space space = new Space();
    private Space spare = new Space();

    private int made;
    private int collections;

    public ForwardYard() {
        Arrays.fill(registers, NOTHING);
        Arrays.fill(weakRegisters, NOTHING);
    }

    public int make(int r, int fields, int value)
            throws IllegalArgumentException, IllegalStateException {
        checkRegister(r);
        if (fields < 0 || fields > MOST_FIELDS) {
            throw new IllegalArgumentException("fields is not 0 .. 4");
        }
        if (!space.hasRoomFor(fields)) {
            throw new IllegalStateException("the words would be more than 240");
        }
        int number = made;
        registers[r] = space.layDown(number, fields, value);
        made++;
        return number;
    }

    public void set(int r, int f, int q)
            throws IllegalArgumentException, NoSuchElementException, IndexOutOfBoundsException {
        checkRegister(r);
        checkRegister(q);
        int at = objectOf(r);
        checkField(at, f);
        space.refer(at, f, registers[q]);
    }

    public void get(int r, int f, int q)
            throws IllegalArgumentException, NoSuchElementException, IndexOutOfBoundsException {
        checkRegister(r);
        checkRegister(q);
        int at = objectOf(r);
        checkField(at, f);
        registers[q] = space.referent(at, f);
    }

    public void copy(int r, int q) throws IllegalArgumentException {
        checkRegister(r);
        checkRegister(q);
        registers[q] = registers[r];
    }

    public boolean clear(int r) throws IllegalArgumentException {
        checkRegister(r);
        boolean referred = registers[r] != NOTHING;
        registers[r] = NOTHING;
        return referred;
    }

    public int write(int r, int value) throws IllegalArgumentException, NoSuchElementException {
        checkRegister(r);
        int at = objectOf(r);
        int old = space.valueOf(at);
        space.putValue(at, value);
        return old;
    }

    public void watch(int w, int r) throws IllegalArgumentException {
        checkWeakRegister(w);
        checkRegister(r);
        weakRegisters[w] = registers[r];
    }

    public void revive(int w, int r) throws IllegalArgumentException {
        checkWeakRegister(w);
        checkRegister(r);
        registers[r] = weakRegisters[w];
    }

    public int watched(int w) throws IllegalArgumentException {
        checkWeakRegister(w);
        return numberOrNothing(weakRegisters[w]);
    }

    public int about(int r, int what) throws IllegalArgumentException, NoSuchElementException {
        checkRegister(r);
        if (what < 0 || what > 3) {
            throw new IllegalArgumentException("what is not 0 .. 3");
        }
        int at = objectOf(r);
        switch (what) {
            case 0:
                return space.numberOf(at);
            case 1:
                return space.valueOf(at);
            case 2:
                return space.ageOf(at);
            default:
                return space.fieldCountOf(at);
        }
    }

    public int field(int r, int f)
            throws IllegalArgumentException, NoSuchElementException, IndexOutOfBoundsException {
        checkRegister(r);
        int at = objectOf(r);
        checkField(at, f);
        return numberOrNothing(space.referent(at, f));
    }

    public boolean same(int r, int q) throws IllegalArgumentException {
        checkRegister(r);
        checkRegister(q);
        return registers[r] == registers[q];
    }

    public int reach(int r) throws IllegalArgumentException {
        checkRegister(r);
        return walk.countFrom(space, registers[r]);
    }

    public int collect(int workers, int turns) throws IllegalArgumentException {
        if (workers < 1 || workers > MOST_WORKERS) {
            throw new IllegalArgumentException("workers is not 1 .. 4");
        }
        int before = space.objects();
        spare.makeEmpty();
        crew.begin(workers, turns);
        crew.bringRoots(space, spare, registers);
        crew.bringAllReached(space, spare);
        crew.followWeak(weakRegisters);
        Space left = space;
        space = spare;
        spare = left;
        collections++;
        return before - space.objects();
    }

    public int figure(int k) throws IllegalArgumentException {
        switch (k) {
            case 0:
                return space.words();
            case 1:
                return space.objects();
            case 2:
                return collections;
            case 3:
                return made;
            default:
                throw new IllegalArgumentException("k is not 0 .. 3");
        }
    }

    private static void checkRegister(int r) {
        if (r < 0 || r >= REGISTERS) {
            throw new IllegalArgumentException("no such register");
        }
    }

    private static void checkWeakRegister(int w) {
        if (w < 0 || w >= WEAK_REGISTERS) {
            throw new IllegalArgumentException("no such weak register");
        }
    }

    private void checkField(int at, int f) {
        if (f < 0 || f >= space.fieldCountOf(at)) {
            throw new IndexOutOfBoundsException("the object has no such field");
        }
    }

    /** The place of the object to which a register refers that has been checked before. */
    private int objectOf(int r) {
        int at = registers[r];
        if (at == NOTHING) {
            throw new NoSuchElementException("the register refers to nothing");
        }
        return at;
    }

    private int numberOrNothing(int at) {
        return at == NOTHING ? NOTHING : space.numberOf(at);
    }

    /**
     * Objects one behind another in a row of words. An object is known by the place of its first
     * word; its words are its number, its value, its shape, and for each field the place of the
     * object to which the field refers, or NOTHING.
     */
    private static final class Space {

        private static final int VALUE = 1;

        /** Age and field count share this word, to keep to three words and the fields. */
        private static final int SHAPE = 2;
        private static final int COUNT_BITS = 3;
        private static final int COUNT_MASK = (1 << COUNT_BITS) - 1;
        private static final int ONE_OLDER = 1 << COUNT_BITS;

        private final int[] row = new int[MOST_WORDS];
        private int words;
        private int objects;

        int words() {
            return words;
        }

        int objects() {
            return objects;
        }

        void makeEmpty() {
            words = 0;
            objects = 0;
        }

        boolean hasRoomFor(int fields) {
            return words + HEAD_WORDS + fields <= MOST_WORDS;
        }

        int layDown(int number, int fields, int value) {
            int at = words;
            row[at] = number;
            row[at + VALUE] = value;
            row[at + SHAPE] = fields;
            for (int f = 0; f < fields; f++) {
                row[at + HEAD_WORDS + f] = NOTHING;
            }
            words += HEAD_WORDS + fields;
            objects++;
            return at;
        }

        /** Copies an object of another space, one older; its fields still hold old places. */
        int takeOver(Space other, int old) {
            int at = words;
            int size = HEAD_WORDS + other.fieldCountOf(old);
            System.arraycopy(other.row, old, row, at, size);
            row[at + SHAPE] += ONE_OLDER;
            words += size;
            objects++;
            return at;
        }

        int numberOf(int at) {
            return row[at];
        }

        int valueOf(int at) {
            return row[at + VALUE];
        }

        void putValue(int at, int value) {
            row[at + VALUE] = value;
        }

        int ageOf(int at) {
            return row[at + SHAPE] >> COUNT_BITS;
        }

        int fieldCountOf(int at) {
            return row[at + SHAPE] & COUNT_MASK;
        }

        int referent(int at, int f) {
            return row[at + HEAD_WORDS + f];
        }

        void refer(int at, int f, int target) {
            row[at + HEAD_WORDS + f] = target;
        }
    }

    /** Counts what is reached from an object. */
    private static final class Walk {

        /** By place: 1 for an object that has been found. */
        private final int[] seen = new int[MOST_WORDS];
        private final int[] queue = new int[MOST_OBJECTS];
        private int found;

        int countFrom(Space space, int start) {
            Arrays.fill(seen, 0);
            found = 0;
            find(start);
            for (int i = 0; i < found && i < MOST_OBJECTS; i++) {
                int at = queue[i];
                for (int f = 0; f < space.fieldCountOf(at); f++) {
                    find(space.referent(at, f));
                }
            }
            return found;
        }

        private void find(int at) {
            if (at != NOTHING && seen[at] == 0) {
                seen[at] = 1;
                queue[found] = at;
                found++;
            }
        }
    }

    /** One worker's pile of objects that are copied, but whose fields still hold old places. */
    private static final class Worker {

        private final int[] pile = new int[MOST_OBJECTS];
        private int height;

        void pileUp(int at) {
            pile[height] = at;
            height++;
        }

        /** The object on top of the pile, or NOTHING if the pile is empty. */
        int takeTop() {
            if (height == 0) {
                return NOTHING;
            }
            height--;
            return pile[height];
        }
    }

    /** The workers, who bring over all that is reached from one space to another. */
    private static final class Crew {

        private final Worker[] workers = new Worker[MOST_WORKERS];

        /** By old place: where the object has been copied to, or NOTHING. */
        private final int[] forward = new int[MOST_WORDS];

        private int working = 1;
        private int turns;
        private int steps;

        Crew() {
            for (int w = 0; w < MOST_WORKERS; w++) {
                workers[w] = new Worker();
            }
        }

        void begin(int workerCount, int turnOrder) {
            working = workerCount;
            turns = turnOrder;
            steps = 0;
            Arrays.fill(forward, NOTHING);
        }

        void bringRoots(Space from, Space to, int[] roots) {
            for (int i = 0; i < roots.length; i++) {
                roots[i] = bring(workers[whoseTurn()], from, to, roots[i]);
            }
        }

        /** Each step does the fields of one copied object: as many steps as objects. */
        void bringAllReached(Space from, Space to) {
            for (int done = 0; done < to.objects() && done < MOST_OBJECTS; done++) {
                int turn = whoseTurn();
                int at = takeFor(turn);
                if (at != NOTHING) {
                    bringFields(workers[turn], from, to, at);
                }
            }
        }

        void followWeak(int[] weak) {
            for (int i = 0; i < weak.length; i++) {
                weak[i] = weak[i] == NOTHING ? NOTHING : forward[weak[i]];
            }
        }

        /**
         * The workers go round, and two bits of turns for each step say how many are passed over. A
         * shift counts modulo 32, so the same bits come again after 16 steps.
         */
        private int whoseTurn() {
            int passedOver = (turns >>> (2 * steps)) & 3;
            int turn = (steps + passedOver) % working;
            steps++;
            return turn;
        }

        /** A worker whose own pile is empty takes from the next one who has something left. */
        private int takeFor(int turn) {
            int at = NOTHING;
            for (int i = 0; i < working && at == NOTHING; i++) {
                at = workers[(turn + i) % working].takeTop();
            }
            return at;
        }

        private void bringFields(Worker worker, Space from, Space to, int at) {
            for (int f = 0; f < to.fieldCountOf(at); f++) {
                to.refer(at, f, bring(worker, from, to, to.referent(at, f)));
            }
        }

        /** The new place of an object, which the worker copies if nobody has done so yet. */
        private int bring(Worker worker, Space from, Space to, int old) {
            if (old == NOTHING) {
                return NOTHING;
            }
            if (forward[old] == NOTHING) {
                forward[old] = to.takeOver(from, old);
                worker.pileUp(forward[old]);
            }
            return forward[old];
        }
    }
}
