import java.util.Arrays;
import java.util.NoSuchElementException;

/**
 * Bodies of a small language with objects, a guard who tells without running
 * them whether one of them can ever look into null, and a machine that runs them.
 */
public final class MakerGuard {
    public static final int NONE = -1;

    private static final int CLASSES = 6;
    private static final int FIELDS = 4;
    private static final int FUNCTIONS = 6;
    private static final int BODIES = CLASSES + FUNCTIONS;
    private static final int LOCALS = 8;
    private static final int SELF = 7;
    private static final int PARAMETERS = 3;
    private static final int PLACES = 40;
    private static final int OBJECTS = 60;
    private static final int FRAMES = 20;
    private static final int MOST_STEPS = 1000;

    private static final int COPY = 0;
    private static final int SET_NULL = 1;
    private static final int NEW = 2;
    private static final int GET = 3;
    private static final int PUT = 4;
    private static final int IF_NULL = 5;
    private static final int GO = 6;
    private static final int CALL = 7;
    private static final int RETURN = 8;

    private static final int DONE = 0;
    private static final int FREE = 1;
    private static final int EITHER = 2;

    private static final int NOT_NULL = 0;
    private static final int PERHAPS_NULL = 1;
    private static final int SURELY_NULL = 2;

    private static final int HOLDS_NOTHING = -2;
    private static final int NO_WAY = -3;

    private static final int RUNNING = 0;
    private static final int ENDED = 1;
    private static final int FIELD_OF_NULL = 2;
    private static final int TOO_MANY_OBJECTS = 3;
    private static final int TOO_MANY_FRAMES = 4;
    private static final int NO_PLACE = 5;

    private final Program program;
    private final Guard guard;
    private final Machine machine;

    public MakerGuard() {
        Program fresh = new Program();
        program = fresh;
        guard = new Guard(fresh);
        machine = new Machine(fresh);
    }

    public void field(int c, int k, int holds, boolean nullable) throws NoSuchElementException {
        mustBeThere(isBelow(c, CLASSES) && isBelow(k, FIELDS) && isBelow(holds, CLASSES));
        program.fieldOf(c, k).declare(holds, nullable, DONE);
        forgetOldAnswers();
    }

    public int parameter(int body, int k, int c, boolean nullable, int state)
            throws NoSuchElementException, IllegalStateException {
        mustBeThere(isBelow(body, BODIES) && isBelow(k, PARAMETERS));
        mustBeThere(isBelow(c, CLASSES) && isBelow(state, EITHER + 1));
        Body declared = program.bodies[body];
        mustBeReady(k <= declared.parameterCount);
        declared.declareParameter(k, c, nullable, state);
        forgetOldAnswers();
        return declared.parameterCount;
    }

    public void returns(int function, int c, boolean nullable, int state) throws NoSuchElementException {
        mustBeThere(isBelow(function, FUNCTIONS) && isBelow(c, CLASSES) && isBelow(state, EITHER + 1));
        program.functionBody(function).returned.declare(c, nullable, state);
        forgetOldAnswers();
    }

    public int add(int body, int order, int x, int y, int z)
            throws NoSuchElementException, IllegalArgumentException, IllegalStateException {
        mustBeThere(isBelow(body, BODIES));
        // Ahead of x, y and z: without an order they are mere numbers, and nothing has to be there.
        mustBeKnown(isBelow(order, RETURN + 1));
        mustBeThere(hasRightNumbers(order, x, y, z));
        Body longer = program.bodies[body];
        mustBeReady(longer.size < PLACES);
        longer.append(order, x, y, z);
        forgetOldAnswers();
        return longer.size;
    }

    public int clear(int body) throws NoSuchElementException {
        mustBeThere(isBelow(body, BODIES));
        int had = program.bodies[body].size;
        program.bodies[body].reset();
        forgetOldAnswers();
        return had;
    }

    public boolean good(int body) throws NoSuchElementException {
        mustBeThere(isBelow(body, BODIES));
        return guard.approves(body);
    }

    public int holds(int body, int place, int local, int what)
            throws NoSuchElementException, IllegalArgumentException, IllegalStateException {
        mustBeThere(isBelow(body, BODIES) && program.bodies[body].hasPlace(place) && isBelow(local, LOCALS));
        mustBeKnown(isBelow(what, 3));
        mustBeReady(guard.approves(body));
        Sight sight = guard.sightAt(body, place);
        return sight.reached ? sight.tell(local, what) : NO_WAY;
    }

    public int fields(int body, int place) throws NoSuchElementException, IllegalStateException {
        mustBeThere(isBelow(body, BODIES) && isMaker(body) && program.bodies[body].hasPlace(place));
        mustBeReady(guard.approves(body));
        Sight sight = guard.sightAt(body, place);
        return sight.reached ? sight.put : NONE;
    }

    public void start(int function) throws NoSuchElementException, IllegalStateException {
        mustBeThere(isBelow(function, FUNCTIONS));
        mustBeReady(program.functionBody(function).parameterCount == 0);
        machine.begin(function);
    }

    public int run(int n) throws IllegalArgumentException, IllegalStateException {
        mustBeKnown(n >= 0 && n <= MOST_STEPS);
        mustBeReady(machine.present);
        return machine.advance(n);
    }

    public int state(int what) throws IllegalArgumentException, IllegalStateException {
        mustBeKnown(isBelow(what, 7));
        mustBeReady(machine.present);
        return machine.tell(what);
    }

    public int local(int k) throws NoSuchElementException {
        mustBeThere(isBelow(k, LOCALS) && machine.present && machine.depth > 0);
        return machine.upper().locals[k];
    }

    public int object(int o, int k) throws NoSuchElementException {
        mustBeThere(machine.present && isBelow(o, machine.objectCount) && isBelow(k, FIELDS + 1));
        return k == FIELDS ? machine.classOf[o] : machine.fieldRow[o * FIELDS + k];
    }

    public int count(int what) throws IllegalArgumentException {
        mustBeKnown(isBelow(what, 2));
        int total = 0;
        for (int body = 0; body < BODIES; body++) {
            if (what == 0) {
                total += program.bodies[body].size;
            } else if (guard.approves(body)) {
                total++;
            }
        }
        return total;
    }

    // Each change of what is declared or written may change every verdict, and ends the run.
    private void forgetOldAnswers() {
        guard.forget();
        machine.present = false;
    }

    private static boolean hasRightNumbers(int order, int x, int y, int z) {
        if (order != GO && !isBelow(x, LOCALS)) {
            return false;
        }
        switch (order) {
            case COPY:
                return isBelow(y, LOCALS);
            case NEW:
                return isBelow(y, CLASSES) && isBelow(z, LOCALS);
            case CALL:
                return isBelow(y, FUNCTIONS) && isBelow(z, LOCALS);
            case GET:
            case PUT:
                return isBelow(y, LOCALS) && isBelow(z, FIELDS);
            default:
                return true;
        }
    }

    private static boolean isBelow(int number, int bound) {
        return number >= 0 && number < bound;
    }

    private static boolean isMaker(int body) {
        return body < CLASSES;
    }

    private static void mustBeThere(boolean there) {
        if (!there) {
            throw new NoSuchElementException("there is no such thing");
        }
    }

    private static void mustBeKnown(boolean known) {
        if (!known) {
            throw new IllegalArgumentException("the number is none of those that the call knows");
        }
    }

    private static void mustBeReady(boolean ready) {
        if (!ready) {
            throw new IllegalStateException("not in this state");
        }
    }

    /** What a field, a parameter or a function's answer is declared to be; a field's stage is always DONE. */
    private static final class Declaration {
        int ofClass = 0;
        boolean nullable = true;
        int stage = DONE;

        void declare(int newClass, boolean newNullable, int newStage) {
            ofClass = newClass;
            nullable = newNullable;
            stage = newStage;
        }
    }

    /** The instructions of a maker or a function, and what is declared of it. */
    private static final class Body {
        final int[] orders = new int[PLACES];
        final int[] xs = new int[PLACES];
        final int[] ys = new int[PLACES];
        final int[] zs = new int[PLACES];
        final Declaration[] parameters = new Declaration[PARAMETERS];
        final Declaration returned = new Declaration();
        int size = 0;
        int parameterCount = 0;

        Body() {
            for (int k = 0; k < PARAMETERS; k++) {
                parameters[k] = new Declaration();
            }
        }

        boolean hasPlace(int place) {
            return isBelow(place, size);
        }

        void append(int order, int x, int y, int z) {
            orders[size] = order;
            xs[size] = x;
            ys[size] = y;
            zs[size] = z;
            size++;
        }

        void declareParameter(int k, int c, boolean nullable, int stage) {
            parameters[k].declare(c, nullable, stage);
            parameterCount = Math.max(parameterCount, k + 1);
        }

        void reset() {
            size = 0;
            parameterCount = 0;
            returned.declare(0, true, DONE);
        }
    }

    /** All that the caller has declared and written. */
    private static final class Program {
        final Body[] bodies = new Body[BODIES];
        private final Declaration[] fieldsOfAll = new Declaration[CLASSES * FIELDS];

        Program() {
            for (int body = 0; body < BODIES; body++) {
                bodies[body] = new Body();
            }
            for (int k = 0; k < CLASSES * FIELDS; k++) {
                fieldsOfAll[k] = new Declaration();
            }
        }

        Declaration fieldOf(int c, int k) {
            return fieldsOfAll[c * FIELDS + k];
        }

        Body functionBody(int function) {
            return bodies[CLASSES + function];
        }
    }

    /** What the guard sees ahead of an instruction: what each local holds, and the fields PUT to SELF. */
    private static final class Sight {
        private final int[] classes = new int[LOCALS];
        private final int[] nullness = new int[LOCALS];
        private final int[] stages = new int[LOCALS];
        int put = 0;
        boolean reached = false;
        boolean changed = false;

        void forget() {
            Arrays.fill(classes, HOLDS_NOTHING);
            put = 0;
            reached = false;
            changed = false;
        }

        void take(Sight other) {
            System.arraycopy(other.classes, 0, classes, 0, LOCALS);
            System.arraycopy(other.nullness, 0, nullness, 0, LOCALS);
            System.arraycopy(other.stages, 0, stages, 0, LOCALS);
            put = other.put;
        }

        void write(int local, int c, int newNullness, int newStage) {
            classes[local] = c;
            nullness[local] = newNullness;
            stages[local] = newStage;
        }

        void writeDeclared(int local, Declaration declared) {
            write(local, declared.ofClass, declared.nullable ? PERHAPS_NULL : NOT_NULL, declared.stage);
        }

        boolean holdsSomething(int local) {
            return classes[local] != HOLDS_NOTHING;
        }

        /** Only such a local may be looked into. */
        boolean holdsObject(int local) {
            return classes[local] >= 0 && nullness[local] == NOT_NULL;
        }

        boolean isDoneOrNull(int local) {
            return stages[local] == DONE || nullness[local] == SURELY_NULL;
        }

        boolean fitsClassAndNull(int local, Declaration declared) {
            boolean rightClass = classes[local] == declared.ofClass || classes[local] == NONE;
            return rightClass && (nullness[local] == NOT_NULL || declared.nullable);
        }

        boolean fits(int local, Declaration declared) {
            boolean rightStage = stages[local] == declared.stage || declared.stage == EITHER
                    || nullness[local] == SURELY_NULL;
            return fitsClassAndNull(local, declared) && rightStage;
        }

        int tell(int local, int what) {
            if (!holdsSomething(local)) {
                return HOLDS_NOTHING;
            }
            if (what == 0) {
                return classes[local];
            }
            return what == 1 ? nullness[local] : stages[local];
        }

        void meet(Sight way) {
            if (!reached) {
                take(way);
                reached = true;
                changed = true;
                return;
            }
            for (int local = 0; local < LOCALS; local++) {
                meetLocal(local, way);
            }
            int putOnBoth = put & way.put;
            if (putOnBoth != put) {
                put = putOnBoth;
                changed = true;
            }
        }

        private void meetLocal(int local, Sight way) {
            int c = commonClass(classes[local], way.classes[local]);
            if (c == HOLDS_NOTHING) {
                changed = changed || holdsSomething(local);
                classes[local] = HOLDS_NOTHING;
                return;
            }
            int n = nullness[local] == way.nullness[local] ? nullness[local] : PERHAPS_NULL;
            int s = stages[local] == way.stages[local] ? stages[local] : EITHER;
            if (c != classes[local] || n != nullness[local] || s != stages[local]) {
                write(local, c, n, s);
                changed = true;
            }
        }

        private static int commonClass(int one, int other) {
            if (one == other || other == NONE) {
                return one;
            }
            return one == NONE ? other : HOLDS_NOTHING;
        }
    }

    /** Follows all ways through a body at once, without running it. */
    private static final class Guard {
        private static final int UNKNOWN = 0;
        private static final int GOOD = 1;
        private static final int BAD = 2;
        // A sight changes at most some 37 times before it stays; each round sees one change at least.
        private static final int MOST_ROUNDS = 100 * PLACES;

        private final Program program;
        private final Sight[] sights = new Sight[PLACES];
        private final Sight after = new Sight();
        private final int[] verdicts = new int[BODIES];
        private int watched = NONE;
        private Body body;

        Guard(Program program) {
            this.program = program;
            body = program.bodies[0];
            for (int place = 0; place < PLACES; place++) {
                sights[place] = new Sight();
            }
        }

        void forget() {
            Arrays.fill(verdicts, UNKNOWN);
            watched = NONE;
        }

        boolean approves(int number) {
            if (verdicts[number] == UNKNOWN) {
                watch(number);
            }
            return verdicts[number] == GOOD;
        }

        /** Only the sights of the body watched last are kept: those of another are made anew. */
        Sight sightAt(int number, int place) {
            if (watched != number) {
                watch(number);
            }
            return sights[place];
        }

        private void watch(int number) {
            prepare(number);
            boolean can = goTo(0);
            boolean more = true;
            for (int round = 0; can && more && round < MOST_ROUNDS; round++) {
                more = false;
                for (int place = 0; can && place < body.size; place++) {
                    if (sights[place].changed) {
                        sights[place].changed = false;
                        more = true;
                        can = pass(place);
                    }
                }
            }
            verdicts[number] = can ? GOOD : BAD;
        }

        private void prepare(int number) {
            watched = number;
            body = program.bodies[number];
            for (int place = 0; place < body.size; place++) {
                sights[place].forget();
            }
            after.forget();
            for (int k = 0; k < body.parameterCount; k++) {
                after.writeDeclared(k, body.parameters[k]);
            }
            if (isMaker(number)) {
                after.write(SELF, number, NOT_NULL, FREE);
            }
        }

        /** Whether the instruction can be done; if so, its ways have gone on to the places behind. */
        private boolean pass(int place) {
            int x = body.xs[place];
            int y = body.ys[place];
            int z = body.zs[place];
            after.take(sights[place]);
            switch (body.orders[place]) {
                case COPY:
                    return !isSelf(x) && copy(x, y) && goTo(place + 1);
                case SET_NULL:
                    after.write(x, NONE, SURELY_NULL, DONE);
                    return !isSelf(x) && goTo(place + 1);
                case NEW:
                    return !isSelf(x) && make(x, y, z) && goTo(place + 1);
                case GET:
                    return !isSelf(x) && fetch(x, y, z) && goTo(place + 1);
                case PUT:
                    return store(x, y, z) && goTo(place + 1);
                case IF_NULL:
                    return fork(x, y, place + 1);
                case GO:
                    return goTo(y);
                case CALL:
                    return !isSelf(x) && call(x, y, z) && goTo(place + 1);
                default:
                    return mayReturn(x);
            }
        }

        private boolean isSelf(int local) {
            return local == SELF && isMaker(watched);
        }

        private boolean goTo(int place) {
            if (!body.hasPlace(place)) {
                return false;
            }
            sights[place].meet(after);
            return true;
        }

        private boolean fork(int x, int target, int next) {
            if (!after.holdsSomething(x) || !body.hasPlace(target) || !body.hasPlace(next)) {
                return false;
            }
            int nullness = after.nullness[x];
            if (nullness != NOT_NULL) {
                after.nullness[x] = SURELY_NULL;
                sights[target].meet(after);
            }
            if (nullness != SURELY_NULL) {
                after.nullness[x] = NOT_NULL;
                sights[next].meet(after);
            }
            return true;
        }

        private boolean mayReturn(int x) {
            if (!isMaker(watched)) {
                return after.fits(x, body.returned);
            }
            for (int k = 0; k < FIELDS; k++) {
                if (!program.fieldOf(watched, k).nullable && (after.put >> k & 1) == 0) {
                    return false;
                }
            }
            return true;
        }

        private boolean copy(int x, int y) {
            after.write(x, after.classes[y], after.nullness[y], after.stages[y]);
            return after.holdsSomething(y);
        }

        private boolean fetch(int x, int y, int z) {
            if (!after.holdsObject(y)) {
                return false;
            }
            Declaration declared = program.fieldOf(after.classes[y], z);
            if (after.stages[y] == DONE) {
                after.writeDeclared(x, declared);
            } else {
                after.write(x, declared.ofClass, PERHAPS_NULL, EITHER);
            }
            return true;
        }

        private boolean store(int x, int y, int z) {
            if (!after.holdsObject(x)) {
                return false;
            }
            if (!after.fitsClassAndNull(y, program.fieldOf(after.classes[x], z))) {
                return false;
            }
            if (after.stages[x] != FREE && !after.isDoneOrNull(y)) {
                return false;
            }
            // Only local SELF counts: the guard does not know which other locals are that object.
            if (isSelf(x)) {
                after.put |= 1 << z;
            }
            return true;
        }

        private boolean make(int x, int c, int first) {
            Body maker = program.bodies[c];
            if (!parametersFit(maker, first)) {
                return false;
            }
            after.write(x, c, NOT_NULL, stageOfNew(maker.parameterCount, first));
            return true;
        }

        private boolean call(int x, int function, int first) {
            Body called = program.functionBody(function);
            if (!parametersFit(called, first)) {
                return false;
            }
            after.writeDeclared(x, called.returned);
            return true;
        }

        // A parameter behind the last local fits nothing: there is no local that could hold it.
        private boolean parametersFit(Body called, int first) {
            for (int k = 0; k < called.parameterCount; k++) {
                if (first + k >= LOCALS || !after.fits(first + k, called.parameters[k])) {
                    return false;
                }
            }
            return true;
        }

        private int stageOfNew(int parameters, int first) {
            int stage = DONE;
            for (int local = first; local < first + parameters && local < LOCALS; local++) {
                if (after.stages[local] == FREE && after.nullness[local] == NOT_NULL) {
                    return FREE;
                }
                if (!after.isDoneOrNull(local)) {
                    stage = EITHER;
                }
            }
            return stage;
        }
    }

    /** A body that is being run. */
    private static final class Frame {
        final int[] locals = new int[LOCALS];
        int body = 0;
        int place = 0;
        int made = NONE;

        void enter(int newBody) {
            body = newBody;
            place = 0;
            made = NONE;
            Arrays.fill(locals, NONE);
        }
    }

    /** Runs a function step by step; nothing is looked at that the guard asks for. */
    private static final class Machine {
        final int[] classOf = new int[OBJECTS];
        final int[] fieldRow = new int[OBJECTS * FIELDS];
        boolean present = false;
        int depth = 0;
        int objectCount = 0;
        private final Program program;
        private final Frame[] frames = new Frame[FRAMES];
        private int status = RUNNING;
        private int steps = 0;
        private int answer = NONE;

        Machine(Program program) {
            this.program = program;
            for (int k = 0; k < FRAMES; k++) {
                frames[k] = new Frame();
            }
        }

        void begin(int function) {
            present = true;
            status = RUNNING;
            steps = 0;
            answer = NONE;
            objectCount = 0;
            frames[0].enter(CLASSES + function);
            depth = 1;
        }

        Frame upper() {
            return frames[Math.max(depth, 1) - 1];
        }

        int tell(int what) {
            switch (what) {
                case 0:
                    return status;
                case 1:
                    return steps;
                case 2:
                    return depth;
                case 3:
                    return depth > 0 ? upper().body : NONE;
                case 4:
                    return depth > 0 ? upper().place : NONE;
                case 5:
                    return objectCount;
                default:
                    return answer;
            }
        }

        int advance(int most) {
            for (int done = 0; done < most; done++) {
                if (status != RUNNING) {
                    return done;
                }
                int trouble = attempt();
                if (trouble != RUNNING) {
                    status = trouble;
                    return done;
                }
                steps++;
                status = depth == 0 ? ENDED : RUNNING;
            }
            return most;
        }

        /** Does one step, or nothing: then it answers the trouble. */
        private int attempt() {
            Frame frame = upper();
            Body body = program.bodies[frame.body];
            int place = frame.place;
            if (!body.hasPlace(place)) {
                return NO_PLACE;
            }
            switch (body.orders[place]) {
                case NEW:
                    return make(frame, body.ys[place], body.zs[place]);
                case CALL:
                    return call(frame, CLASSES + body.ys[place], body.zs[place]);
                case RETURN:
                    leave(frame, body.xs[place]);
                    return RUNNING;
                case IF_NULL:
                    frame.place = frame.locals[body.xs[place]] == NONE ? body.ys[place] : place + 1;
                    return RUNNING;
                case GO:
                    frame.place = body.ys[place];
                    return RUNNING;
                default:
                    return move(frame, body, place);
            }
        }

        private int move(Frame frame, Body body, int place) {
            int[] locals = frame.locals;
            int x = body.xs[place];
            int y = body.ys[place];
            int order = body.orders[place];
            if (order == COPY) {
                locals[x] = locals[y];
            } else if (order == SET_NULL) {
                locals[x] = NONE;
            } else {
                int owner = order == GET ? locals[y] : locals[x];
                if (owner == NONE) {
                    return FIELD_OF_NULL;
                }
                int at = owner * FIELDS + body.zs[place];
                if (order == GET) {
                    locals[x] = fieldRow[at];
                } else {
                    fieldRow[at] = locals[y];
                }
            }
            frame.place = place + 1;
            return RUNNING;
        }

        private int make(Frame frame, int c, int first) {
            if (objectCount == OBJECTS) {
                return TOO_MANY_OBJECTS;
            }
            int trouble = call(frame, c, first);
            if (trouble == RUNNING) {
                classOf[objectCount] = c;
                for (int k = 0; k < FIELDS; k++) {
                    fieldRow[objectCount * FIELDS + k] = NONE;
                }
                upper().made = objectCount;
                upper().locals[SELF] = objectCount;
                objectCount++;
            }
            return trouble;
        }

        // The caller stays at its place: leave() finds there which local is waiting.
        private int call(Frame frame, int called, int first) {
            if (depth == FRAMES) {
                return TOO_MANY_FRAMES;
            }
            depth++;
            upper().enter(called);
            int parameters = program.bodies[called].parameterCount;
            for (int k = 0; k < parameters && first + k < LOCALS; k++) {
                upper().locals[k] = frame.locals[first + k];
            }
            return RUNNING;
        }

        private void leave(Frame frame, int x) {
            int result = isMaker(frame.body) ? frame.made : frame.locals[x];
            depth--;
            if (depth == 0) {
                answer = result;
                return;
            }
            Frame caller = upper();
            caller.locals[program.bodies[caller.body].xs[caller.place]] = result;
            caller.place++;
        }
    }
}
