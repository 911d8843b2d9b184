import java.util.Arrays;
import java.util.NoSuchElementException;

/** Small programs of objects, an optimiser that looks at all of a program, and runs with it or without it. */
public final class CallShaper {
    private static final int NONE = -1;

    private static final int CLASSES = 6;
    private static final int SELECTORS = 4;
    private static final int BODIES = CLASSES * SELECTORS;
    private static final int BODY_ROOM = 10;
    private static final int REGISTERS = 6;
    private static final int ARGUMENT = 5;
    private static final int FIELDS = 3;
    private static final int MOST_SKIPPED = 9;
    private static final int MOST_IN_PLACE = 3;

    private static final int CONST = 0;
    private static final int MOVE = 1;
    private static final int ADD = 2;
    private static final int LESS = 3;
    private static final int NEW = 4;
    private static final int GET = 5;
    private static final int SET = 6;
    private static final int CALL = 7;
    private static final int OUT = 8;
    private static final int SKIP = 9;
    private static final int CAST = 10;
    private static final int RETURN = 11;

    private static final int UNSHAPED = 0;
    private static final int VIRTUAL = 1;
    private static final int DIRECT = 2;
    private static final int IN_PLACE = 3;
    private static final int DEAD = 4;
    private static final int LOCAL = 5;
    private static final int NOT_LOCAL = 6;

    private static final int NO_TRAP = 0;
    private static final int KIND_TRAP = 1;
    private static final int CAST_TRAP = 2;
    private static final int HEAP_TRAP = 3;
    private static final int DEEP_TRAP = 4;
    private static final int FUEL_TRAP = 5;
    private static final int TARGET_TRAP = 6;
    private static final int FULL_TRAP = 7;

    private static final int MOST_HEAP = 60;
    private static final int MOST_FRAMES = 12;
    private static final int MOST_OPERATIONS = 400;
    private static final int MOST_PUT_OUT = 40;
    private static final int OUT_OF_AN_OBJECT = 1000;
    // Local objects take no room of the heap: there, the fuel alone bounds how many are made.
    private static final int MOST_OBJECTS = MOST_OPERATIONS + 1;

    private static final int COUNTS = 6;
    private static final int PUT_OUT = 0;
    private static final int ROOM_TAKEN = 1;
    private static final int LOOKED_UP = 2;
    private static final int FRAMES_MADE = 3;
    private static final int OPERATIONS_DONE = 4;
    private static final int MOST_FRAMES_SEEN = 5;

    private final Program program;
    private final Shaping shaping;
    private final Machine machine;

    public CallShaper() {
        program = new Program();
        shaping = new Shaping(program);
        machine = new Machine(program, shaping);
    }

    public int type(int parent) throws IllegalArgumentException, IllegalStateException {
        if (parent != NONE && !program.hasClass(parent)) {
            throw new IllegalArgumentException("the parent is not a class");
        }
        if (program.isFullOfClasses()) {
            throw new IllegalStateException("there are as many classes as there can be");
        }
        return program.addClass(parent);
    }

    public int operation(int type, int selector, int kind, int x, int y, int z)
            throws IllegalArgumentException, IllegalStateException {
        if (!program.hasPlaceFor(type, selector)) {
            throw new IllegalArgumentException("no such class or selector");
        }
        if (!Program.isWellFormed(kind, x, y, z)) {
            throw new IllegalArgumentException("no such kind, or a number that the kind does not take");
        }
        int body = Program.bodyOf(type, selector);
        if (program.isFull(body)) {
            throw new IllegalStateException("the body has as many operations as it can have");
        }
        shaping.forget(body);
        return program.append(body, kind, x, y, z);
    }

    public int strip(int type, int selector) throws IllegalArgumentException {
        if (!program.hasPlaceFor(type, selector)) {
            throw new IllegalArgumentException("no such class or selector");
        }
        int body = Program.bodyOf(type, selector);
        shaping.forget(body);
        return program.empty(body);
    }

    public int shape() {
        return shaping.renew();
    }

    public int reach() {
        return shaping.bits();
    }

    public int site(int type, int selector, int k) throws NoSuchElementException {
        if (!program.hasPlaceFor(type, selector)) {
            throw new NoSuchElementException("no such class or selector");
        }
        int body = Program.bodyOf(type, selector);
        if (k < 0 || k >= program.length(body)) {
            throw new NoSuchElementException("no such operation");
        }
        return shaping.verdictAt(Program.placeOf(body, k));
    }

    public int run(boolean shaped, int heap) throws IllegalArgumentException {
        if (heap < 0 || heap > MOST_HEAP) {
            throw new IllegalArgumentException("no such heap");
        }
        return machine.execute(shaped, heap);
    }

    public int count(int what) throws NoSuchElementException {
        if (what < 0 || what >= COUNTS) {
            throw new NoSuchElementException("no such count");
        }
        return machine.tally(what);
    }

    public int out(int k) throws NoSuchElementException {
        if (k < 0 || k >= machine.tally(PUT_OUT)) {
            throw new NoSuchElementException("no such value was put out");
        }
        return machine.valuePutOut(k);
    }

    /** The classes and the bodies; body 4 * c + s is that of class c and selector s. */
    private static final class Program {
        // Those of classes that are not there are NONE and 0, so that such a class has no parent and no methods.
        private final int[] parents = new int[CLASSES];
        private final int[] lengths = new int[BODIES];
        private final int[] kinds = new int[BODIES * BODY_ROOM];
        private final int[] xs = new int[BODIES * BODY_ROOM];
        private final int[] ys = new int[BODIES * BODY_ROOM];
        private final int[] zs = new int[BODIES * BODY_ROOM];
        private int classes;

        Program() {
            Arrays.fill(parents, NONE);
            classes = 1;
        }

        static int bodyOf(int type, int selector) {
            return type * SELECTORS + selector;
        }

        static int placeOf(int body, int k) {
            return body * BODY_ROOM + k;
        }

        static boolean isWellFormed(int kind, int x, int y, int z) {
            // Register x is the one number that every kind names.
            if (!isWithin(x, REGISTERS)) {
                return false;
            }
            switch (kind) {
                case CONST:
                case OUT:
                case RETURN:
                    return true;
                case MOVE:
                    return isWithin(y, REGISTERS);
                case ADD:
                case LESS:
                    return isWithin(y, REGISTERS) && isWithin(z, REGISTERS);
                case NEW:
                case CAST:
                    return isWithin(y, CLASSES);
                case GET:
                case SET:
                    return isWithin(y, REGISTERS) && isWithin(z, FIELDS);
                case CALL:
                    return isWithin(y, REGISTERS) && isWithin(z, SELECTORS);
                case SKIP:
                    return isWithin(y, MOST_SKIPPED + 1);
                default:
                    return false;
            }
        }

        private static boolean isWithin(int number, int bound) {
            return number >= 0 && number < bound;
        }

        boolean hasClass(int type) {
            return isWithin(type, classes);
        }

        boolean hasPlaceFor(int type, int selector) {
            return hasClass(type) && isWithin(selector, SELECTORS);
        }

        boolean isFullOfClasses() {
            return classes >= CLASSES;
        }

        int addClass(int parent) {
            int type = classes;
            parents[type] = parent;
            classes++;
            return type;
        }

        boolean isFull(int body) {
            return lengths[body] >= BODY_ROOM;
        }

        int append(int body, int kind, int x, int y, int z) {
            int place = placeOf(body, lengths[body]);
            kinds[place] = kind;
            xs[place] = x;
            ys[place] = y;
            zs[place] = z;
            lengths[body]++;
            return lengths[body];
        }

        int empty(int body) {
            int before = lengths[body];
            lengths[body] = 0;
            return before;
        }

        int length(int body) {
            return lengths[body];
        }

        int kind(int place) {
            return kinds[place];
        }

        int x(int place) {
            return xs[place];
        }

        int y(int place) {
            return ys[place];
        }

        int z(int place) {
            return zs[place];
        }

        /** The body that is the target, or NONE. */
        int target(int type, int selector) {
            int at = type;
            for (int left = CLASSES; left > 0 && at != NONE; left--) {
                int body = bodyOf(at, selector);
                if (lengths[body] > 0) {
                    return body;
                }
                at = parents[at];
            }
            return NONE;
        }

        boolean classIs(int type, int other) {
            int at = type;
            for (int left = CLASSES; left > 0 && at != NONE; left--) {
                if (at == other) {
                    return true;
                }
                at = parents[at];
            }
            return false;
        }

        boolean fitsInPlace(int body) {
            if (lengths[body] > MOST_IN_PLACE) {
                return false;
            }
            for (int k = 0; k < lengths[body]; k++) {
                int kind = kinds[placeOf(body, k)];
                if (kind == CALL || kind == SKIP) {
                    return false;
                }
            }
            return true;
        }
    }

    /** What the latest shaping said. Sets of classes, bodies, selectors and registers are bits of an int. */
    private static final class Shaping {
        private final Program program;
        private final int[] verdicts = new int[BODIES * BODY_ROOM];
        // All made classes count for each CALL, so calls of one selector have one verdict, wherever they stand.
        private final int[] callVerdicts = new int[SELECTORS];
        private int made;
        private int reached;
        private int called;

        Shaping(Program program) {
            this.program = program;
        }

        private static boolean isIn(int set, int member) {
            return (set >>> member & 1) != 0;
        }

        int bits() {
            return made | reached << 8;
        }

        int verdictAt(int place) {
            return verdicts[place];
        }

        /** A changed body is as it was not shaped; what is reached stays as the shaping said. */
        void forget(int body) {
            int first = Program.placeOf(body, 0);
            Arrays.fill(verdicts, first, first + BODY_ROOM, UNSHAPED);
        }

        int renew() {
            Arrays.fill(verdicts, UNSHAPED);
            findReached();
            for (int selector = 0; selector < SELECTORS; selector++) {
                callVerdicts[selector] = verdictOfCalls(selector);
            }
            for (int body = 0; body < BODIES; body++) {
                if (isIn(reached, body)) {
                    judge(body);
                }
            }
            return Integer.bitCount(reached);
        }

        private void findReached() {
            made = 1;
            called = 0;
            reached = targetSet(0, 0);
            int read = 0;
            for (int round = 0; round < BODIES && read != reached; round++) {
                int fresh = reached & ~read;
                read = reached;
                readBodies(fresh);
                reachTargets();
            }
        }

        private int targetSet(int type, int selector) {
            int body = program.target(type, selector);
            return body == NONE ? 0 : 1 << body;
        }

        private void readBodies(int fresh) {
            for (int body = 0; body < BODIES; body++) {
                if (isIn(fresh, body)) {
                    readBody(body);
                }
            }
        }

        private void readBody(int body) {
            for (int k = 0; k < program.length(body); k++) {
                int place = Program.placeOf(body, k);
                if (program.kind(place) == NEW) {
                    made |= 1 << program.y(place);
                } else if (program.kind(place) == CALL) {
                    called |= 1 << program.z(place);
                }
            }
        }

        private void reachTargets() {
            for (int type = 0; type < CLASSES; type++) {
                for (int selector = 0; selector < SELECTORS; selector++) {
                    if (isIn(made, type) && isIn(called, selector)) {
                        reached |= targetSet(type, selector);
                    }
                }
            }
        }

        private int verdictOfCalls(int selector) {
            int only = NONE;
            for (int type = 0; type < CLASSES; type++) {
                int target = isIn(made, type) ? program.target(type, selector) : NONE;
                if (target != NONE) {
                    if (only != NONE && only != target) {
                        return VIRTUAL;
                    }
                    only = target;
                }
            }
            if (only == NONE) {
                return DEAD;
            }
            return program.fitsInPlace(only) ? IN_PLACE : DIRECT;
        }

        private void judge(int body) {
            int waysOut = waysOut(body);
            for (int k = 0; k < program.length(body); k++) {
                int place = Program.placeOf(body, k);
                if (program.kind(place) == CALL) {
                    verdicts[place] = callVerdicts[program.z(place)];
                } else if (program.kind(place) == NEW) {
                    boolean getsOut = (holders(body, program.x(place)) & waysOut) != 0;
                    verdicts[place] = getsOut ? NOT_LOCAL : LOCAL;
                }
            }
        }

        /** The registers through which an object that one of them holds gets out of the body. */
        private int waysOut(int body) {
            int ways = 0;
            for (int k = 0; k < program.length(body); k++) {
                int place = Program.placeOf(body, k);
                int kind = program.kind(place);
                if (kind == SET) {
                    ways |= 1 << program.y(place);
                } else if (kind == CALL) {
                    ways |= 1 << program.y(place) | 1 << ARGUMENT;
                } else if (kind == RETURN) {
                    ways |= 1 << program.x(place);
                }
            }
            return ways;
        }

        private int holders(int body, int register) {
            int held = 1 << register;
            // The order of operations does not count, so the moves are gone through until no holder can come.
            for (int round = 1; round < REGISTERS; round++) {
                for (int k = 0; k < program.length(body); k++) {
                    int place = Program.placeOf(body, k);
                    if (program.kind(place) == MOVE && isIn(held, program.y(place))) {
                        held |= 1 << program.x(place);
                    }
                }
            }
            return held;
        }
    }

    /** Runs the program, and keeps what the latest run put out and counted. */
    private static final class Machine {
        // A value is a long: an int is itself, and object n is FIRST_OBJECT + n, which no int reaches.
        private static final long FIRST_OBJECT = 1L << 32;

        private final Program program;
        private final Shaping shaping;
        private final long[] registers = new long[MOST_FRAMES * REGISTERS];
        private final int[] bodies = new int[MOST_FRAMES];
        private final int[] nexts = new int[MOST_FRAMES];
        private final int[] answersTo = new int[MOST_FRAMES];
        private final int[] classes = new int[MOST_OBJECTS];
        private final long[] fields = new long[MOST_OBJECTS * FIELDS];
        private final int[] putOut = new int[MOST_PUT_OUT];
        private final int[] counts = new int[COUNTS];
        private boolean asShaped;
        private int room;
        private int frames;
        private int objects;
        private int trap;

        Machine(Program program, Shaping shaping) {
            this.program = program;
            this.shaping = shaping;
        }

        int tally(int what) {
            return counts[what];
        }

        int valuePutOut(int k) {
            return putOut[k];
        }

        int execute(boolean shaped, int heap) {
            asShaped = shaped;
            room = heap;
            frames = 0;
            objects = 0;
            trap = NO_TRAP;
            Arrays.fill(counts, 0);
            begin();
            // One turn more than there is fuel for: the last one finds the fuel gone.
            for (int turn = 0; turn <= MOST_OPERATIONS && isGoing(); turn++) {
                step();
                leaveEndedFrames();
            }
            return trap;
        }

        private void begin() {
            if (room < 1) {
                trap = HEAP_TRAP;
                return;
            }
            long self = newObject(0);
            counts[ROOM_TAKEN]++;
            int body = program.target(0, 0);
            if (body == NONE) {
                trap = TARGET_TRAP;
                return;
            }
            counts[FRAMES_MADE]++;
            enter(body, self, 0);
        }

        private boolean isGoing() {
            return trap == NO_TRAP && frames > 0;
        }

        /** Takes no operation, and so no fuel: the caller, too, may then be behind its last one. */
        private void leaveEndedFrames() {
            for (int left = frames; left > 0 && isBehindLast(left - 1); left--) {
                answer(0);
            }
        }

        private boolean isBehindLast(int frame) {
            return nexts[frame] >= program.length(bodies[frame]);
        }

        private void step() {
            if (counts[OPERATIONS_DONE] >= MOST_OPERATIONS) {
                trap = FUEL_TRAP;
                return;
            }
            counts[OPERATIONS_DONE]++;
            int top = frames - 1;
            int place = Program.placeOf(bodies[top], nexts[top]);
            nexts[top]++;
            perform(place, top * REGISTERS);
        }

        /** Performs the operation at a place for the frame whose registers begin at base. */
        private void perform(int place, int base) {
            int x = base + program.x(place);
            switch (program.kind(place)) {
                case CONST:
                    registers[x] = program.y(place);
                    break;
                case MOVE:
                    registers[x] = registers[base + program.y(place)];
                    break;
                case ADD:
                case LESS:
                    reckon(place, base);
                    break;
                case NEW:
                    make(place, x);
                    break;
                case GET:
                    readField(place, base);
                    break;
                case SET:
                    writeField(place, base);
                    break;
                case CALL:
                    send(place, base);
                    break;
                case OUT:
                    print(registers[x]);
                    break;
                case SKIP:
                    if (registers[x] == 0) {
                        nexts[frames - 1] += program.y(place);
                    }
                    break;
                case CAST:
                    checkClass(registers[x], program.y(place));
                    break;
                default:
                    answer(registers[x]);
                    break;
            }
        }

        private static boolean isObject(long value) {
            return value >= FIRST_OBJECT;
        }

        private static int objectOf(long value) {
            return (int) (value - FIRST_OBJECT);
        }

        private void reckon(int place, int base) {
            long left = registers[base + program.y(place)];
            long right = registers[base + program.z(place)];
            if (isObject(left) || isObject(right)) {
                trap = KIND_TRAP;
            } else if (program.kind(place) == ADD) {
                registers[base + program.x(place)] = (int) left + (int) right;
            } else {
                registers[base + program.x(place)] = left < right ? 1 : 0;
            }
        }

        private void make(int place, int register) {
            boolean local = asShaped && shaping.verdictAt(place) == LOCAL;
            if (!local && counts[ROOM_TAKEN] >= room) {
                trap = HEAP_TRAP;
                return;
            }
            if (!local) {
                counts[ROOM_TAKEN]++;
            }
            registers[register] = newObject(program.y(place));
        }

        private long newObject(int type) {
            int object = objects;
            objects++;
            classes[object] = type;
            int first = object * FIELDS;
            Arrays.fill(fields, first, first + FIELDS, 0);
            return FIRST_OBJECT + object;
        }

        private void readField(int place, int base) {
            long owner = registers[base + program.y(place)];
            if (isObject(owner)) {
                registers[base + program.x(place)] = fields[objectOf(owner) * FIELDS + program.z(place)];
            } else {
                trap = KIND_TRAP;
            }
        }

        private void writeField(int place, int base) {
            long owner = registers[base + program.x(place)];
            if (isObject(owner)) {
                fields[objectOf(owner) * FIELDS + program.z(place)] = registers[base + program.y(place)];
            } else {
                trap = KIND_TRAP;
            }
        }

        private void send(int place, int base) {
            long self = registers[base + program.y(place)];
            if (!isObject(self)) {
                trap = KIND_TRAP;
                return;
            }
            // A shaped run, too, looks at the object's class: what a shaping said may since be wrong.
            int body = program.target(classes[objectOf(self)], program.z(place));
            if (body == NONE) {
                trap = TARGET_TRAP;
                return;
            }
            if (frames >= MOST_FRAMES) {
                trap = DEEP_TRAP;
                return;
            }
            countCall(asShaped ? shaping.verdictAt(place) : UNSHAPED);
            answersTo[frames] = base + program.x(place);
            enter(body, self, registers[base + ARGUMENT]);
        }

        private void countCall(int verdict) {
            if (verdict != DIRECT && verdict != IN_PLACE) {
                counts[LOOKED_UP]++;
            }
            if (verdict != IN_PLACE) {
                counts[FRAMES_MADE]++;
            }
        }

        private void enter(int body, long self, long argument) {
            int base = frames * REGISTERS;
            Arrays.fill(registers, base, base + REGISTERS, 0);
            registers[base] = self;
            registers[base + 1] = argument;
            bodies[frames] = body;
            nexts[frames] = 0;
            frames++;
            counts[MOST_FRAMES_SEEN] = Math.max(counts[MOST_FRAMES_SEEN], frames);
        }

        private void answer(long value) {
            frames--;
            // What the run's own call answers goes nowhere.
            if (frames > 0) {
                registers[answersTo[frames]] = value;
            }
        }

        private void print(long value) {
            int done = counts[PUT_OUT];
            if (done >= MOST_PUT_OUT) {
                trap = FULL_TRAP;
                return;
            }
            putOut[done] = isObject(value) ? OUT_OF_AN_OBJECT + classes[objectOf(value)] : (int) value;
            counts[PUT_OUT] = done + 1;
        }

        private void checkClass(long value, int type) {
            if (!isObject(value)) {
                trap = KIND_TRAP;
            } else if (!program.classIs(classes[objectOf(value)], type)) {
                trap = CAST_TRAP;
            }
        }
    }
}
