/**
 * Stand-ins for objects in trials: they note each CALL, answer as they were told or as their KIND
 * does, and say afterwards which CALLS came. Words in capitals are those of the document.
 */
public final class StandIns {
    public static final int REFUSED = -1, FULL = -2, UNFINISHED = -3, MISPLACED = -4, WRONG = -5;
    public static final long THROWN = 1L << 40, UNTOLD = 1L << 41, PASSED = 1L << 42, BROKEN = 1L << 43, ERROR = 1L << 44;

    private static final int NO_MISUSE = 0, ALL_SEEN = -6, NONE = -1;

    private static final int TYPES = 3, METHODS = 4, PARAMETERS = 2, STAND_INS = 6, STACK_ROOM = 6,
            LARGEST = 8, ANSWERS = 4, TELLINGS = 16, NOTES = 40, CATCHES = 12, THROWABLE = 1000;

    private static final int QUIET = 0, REAL = 1, STRICT = 2;

    private static final int ANY = 0, IS = 1, LESS = 2, MORE = 3, BOTH = 4, EITHER = 5, NOT = 6, CATCH = 7;

    private static final int IDLE = 0, CALLED = 1, TOLD = 2, CHECKING = 3, TELLING = 4;

    private static final int GIVE = 0, THROW = 1, ECHO = 2, REALLY = 3;

    private static final int TIMES = 0, LEAST = 1, MOST = 2, ONLY = 3, IN_ORDER = 4;

    private final Method[] methods = new Method[TYPES * METHODS];
    private final int[] types = new int[STAND_INS];
    private final int[] kinds = new int[STAND_INS];
    private int standIns = 0;

    private final Stack stack = new Stack();
    private final Answers prepared = new Answers();
    private final Notebook notebook = new Notebook();
    private final Telling[] tellings = new Telling[TELLINGS];
    private int tellingsMade = 0;
    private final Finding finding = new Finding();
    private final Catches catches = new Catches();

    /** What the latest CALL asked for; while the STATE is CALLED, that is the CALL noted last. */
    private final Pattern asked = new Pattern();

    private int state = IDLE;
    private int awaited = NONE;
    private int mode = TIMES;
    private int modeNumber = 0;
    private int place = NONE;
    private int misuses = 0;

    public StandIns() {
        for (int i = 0; i < methods.length; i++) {
            methods[i] = new Method();
        }
        for (int t = 0; t < tellings.length; t++) {
            tellings[t] = new Telling();
        }
    }

    // ---- STEPS ----

    public int define(int t, int m, int many, boolean gives) {
        if (!isBelow(t, TYPES) || !isBelow(m, METHODS) || !isBelow(many, PARAMETERS + 1)) {
            return REFUSED;
        }
        if (standIns > 0) {
            return FULL;
        }
        int misuse = misuseOfPlainStep(false);
        if (misuse != NO_MISUSE) {
            return misuse;
        }
        Method method = methods[t * METHODS + m];
        method.parameters = many;
        method.gives = gives;
        return idleWith(1);
    }

    public int make(int type, int kind) {
        if (!isBelow(type, TYPES) || kind < QUIET || kind > STRICT) {
            return REFUSED;
        }
        if (standIns >= STAND_INS) {
            return FULL;
        }
        int misuse = misuseOfPlainStep(false);
        if (misuse != NO_MISUSE) {
            return misuse;
        }
        types[standIns] = type;
        kinds[standIns] = kind;
        standIns++;
        return idleWith(standIns - 1);
    }

    public int matcher(int kind, int v) {
        if (kind < ANY || kind > CATCH) {
            return REFUSED;
        }
        int taken = Matcher.takenBy(kind);
        boolean enough = stack.size >= taken;
        if (enough && !stack.hasRoomFor(taken)) {
            return FULL;
        }
        int misuse = misuseIf(lacksAnswers(), false, !enough);
        if (misuse != NO_MISUSE) {
            return misuse;
        }
        Matcher upper = taken > 1 ? stack.pop() : null;
        Matcher lower = taken > 0 ? stack.pop() : null;
        stack.push(new Matcher(kind, v, lower, upper));
        return awaitsCall() ? stack.size : idleWith(stack.size);
    }

    public long call(int standIn, int m, int a, int b) {
        if (!isStandIn(standIn) || !isBelow(m, METHODS)) {
            return ERROR + REFUSED;
        }
        if (hasNoRoomForCallOf(standIn)) {
            return ERROR + FULL;
        }
        Method method = methodOf(standIn, m);
        int misuse = misuseOfCall(standIn, method);
        if (misuse != NO_MISUSE) {
            return ERROR + misuse;
        }
        int first = method.parameters > 0 ? a : 0;
        int second = method.parameters > 1 ? b : 0;
        asked.standIn = standIn;
        asked.method = m;
        asked.first = matcherOf(0, method.parameters, first);
        asked.second = matcherOf(1, method.parameters, second);
        stack.size = 0;
        if (state == TOLD) {
            return tellPrepared();
        }
        return state == CHECKING ? doCheck() : noteAndAnswer(method, first, second);
    }

    public int when() {
        if (tellingsMade >= TELLINGS) {
            return FULL;
        }
        int misuse = misuseOfPlainStep(state != CALLED);
        if (misuse != NO_MISUSE) {
            return misuse;
        }
        notebook.takeBackLast();
        beginTelling();
        state = TELLING;
        return tellingsMade - 1;
    }

    public int answer(int kind, int v) {
        if (!isAnswer(kind, v)) {
            return REFUSED;
        }
        Answers receiver = state == TELLING ? latestTelling().answers : prepared;
        if (receiver.size >= ANSWERS) {
            return FULL;
        }
        // Prepared ANSWERS have no METHOD yet: whether they will do is seen when a CALL says for what.
        boolean wrong = state == TELLING && !methodOf(asked.standIn, asked.method).canDo(kind, v);
        int misuse = misuseIf(awaitsCall(), stack.size > 0, wrong);
        if (misuse != NO_MISUSE) {
            return misuse;
        }
        receiver.add(kind, v);
        return state == TELLING ? receiver.size : idleWith(receiver.size);
    }

    public int told(int standIn) {
        if (!isStandIn(standIn)) {
            return REFUSED;
        }
        int misuse = misuseOfPlainStep(prepared.size == 0);
        if (misuse != NO_MISUSE) {
            return misuse;
        }
        state = TOLD;
        awaited = standIn;
        return prepared.size;
    }

    public int check(int standIn, int mode, int n) {
        int least = mode == IN_ORDER ? 1 : 0;
        if (!isStandIn(standIn) || mode < TIMES || mode > IN_ORDER || n < least || n > NOTES) {
            return REFUSED;
        }
        int misuse = misuseOfPlainStep(false);
        if (misuse != NO_MISUSE) {
            return misuse;
        }
        state = CHECKING;
        awaited = standIn;
        this.mode = mode;
        modeNumber = n;
        return 1;
    }

    public int noMore(int standIn) {
        if (!isStandIn(standIn)) {
            return REFUSED;
        }
        int misuse = misuseOfPlainStep(false);
        if (misuse != NO_MISUSE) {
            return misuse;
        }
        return idleWith(notebook.firstUnseenOf(standIn));
    }

    public int restart() {
        int misuse = misuseOfPlainStep(false);
        if (misuse != NO_MISUSE) {
            return misuse;
        }
        int before = place;
        place = NONE;
        return idleWith(before);
    }

    // ---- questions ----

    public int noted(int k, int what) {
        if (!isBelow(k, notebook.size)) {
            return REFUSED;
        }
        Note note = notebook.notes[k];
        switch (what) {
            case 0: return note.number;
            case 1: return note.standIn;
            case 2: return note.method;
            case 3: return note.a;
            case 4: return note.b;
            case 5: return note.seen ? 1 : 0;
            case 6: return note.answeredBy;
            default: return REFUSED;
        }
    }

    public int telling(int t, int what) {
        if (!isBelow(t, tellingsMade)) {
            return REFUSED;
        }
        Telling telling = tellings[t];
        switch (what) {
            case 0: return telling.pattern.standIn;
            case 1: return telling.pattern.method;
            case 2: return telling.answers.size;
            case 3: return telling.timesAnswered;
            case 4: return telling.gone ? 0 : 1;
            default: return REFUSED;
        }
    }

    public int found(int what) {
        if (!finding.done || what < 0) {
            return REFUSED;
        }
        if (what == 0) {
            return finding.passed ? 1 : 0;
        }
        if (what == 1) {
            return finding.size;
        }
        return isBelow(what - 2, finding.size) ? finding.numbers[what - 2] : REFUSED;
    }

    public int caught(int k) {
        return isBelow(k, catches.kept) ? catches.beforeLatest(k) : REFUSED;
    }

    public int count(int what) {
        switch (what) {
            case 0: return standIns;
            case 1: return notebook.size;
            case 2: return tellingsMade;
            case 3: return tellingsNeverUsed();
            case 4: return stack.size;
            case 5: return state;
            case 6: return prepared.size;
            case 7: return catches.total;
            case 8: return place;
            case 9: return misuses;
            default: return REFUSED;
        }
    }

    // ---- what may be asked of a STEP's numbers ----

    private static boolean isBelow(int i, int bound) {
        return i >= 0 && i < bound;
    }

    private boolean isStandIn(int standIn) {
        return isBelow(standIn, standIns);
    }

    private static boolean isAnswer(int kind, int v) {
        switch (kind) {
            case GIVE:
            case REALLY: return true;
            case THROW: return isBelow(v, THROWABLE);
            case ECHO: return isBelow(v, PARAMETERS);
            default: return false;
        }
    }

    private Method methodOf(int standIn, int m) {
        return methods[types[standIn] * METHODS + m];
    }

    // ---- MISUSE ----

    private boolean awaitsCall() {
        return state == TOLD || state == CHECKING;
    }

    private boolean lacksAnswers() {
        return state == TELLING && latestTelling().answers.size == 0;
    }

    /** For every STEP but matcher(), answer() and a CALL, each of which some STATE waits for. */
    private int misuseOfPlainStep(boolean wrong) {
        return misuseIf(awaitsCall() || lacksAnswers(), stack.size > 0, wrong);
    }

    private int misuseOfCall(int standIn, Method method) {
        boolean unfinished = awaitsCall() && standIn != awaited || lacksAnswers();
        boolean wrong = stack.size > 0 && stack.size != method.parameters
                || state == TOLD && !prepared.allDoFor(method);
        return misuseIf(unfinished, false, wrong);
    }

    /** Where several hold, the one that the document names first is the answer. */
    private int misuseIf(boolean unfinished, boolean misplaced, boolean wrong) {
        if (!unfinished && !misplaced && !wrong) {
            return NO_MISUSE;
        }
        if (lacksAnswers()) {
            latestTelling().gone = true;
        }
        stack.size = 0;
        prepared.size = 0;
        state = IDLE;
        misuses++;
        if (unfinished) {
            return UNFINISHED;
        }
        return misplaced ? MISPLACED : WRONG;
    }

    private int idleWith(int answer) {
        state = IDLE;
        return answer;
    }

    // ---- TELLINGS ----

    /** STATE TELLING is only ever about the TELLING made last: a new one is made in other STATES. */
    private Telling latestTelling() {
        return tellings[Math.max(tellingsMade - 1, 0)];
    }

    private void beginTelling() {
        tellings[tellingsMade].pattern.copy(asked);
        tellingsMade++;
    }

    private long tellPrepared() {
        beginTelling();
        latestTelling().answers.takeAllOf(prepared);
        return idleWith(0);
    }

    private int tellingFor(Note note) {
        for (int t = tellingsMade - 1; t >= 0; t--) {
            if (tellings[t].answers.size > 0 && tellings[t].pattern.matches(note)) {
                return t;
            }
        }
        return NONE;
    }

    private int tellingsNeverUsed() {
        int many = 0;
        for (int t = 0; t < tellingsMade; t++) {
            if (tellings[t].answers.size > 0 && tellings[t].timesAnswered == 0) {
                many++;
            }
        }
        return many;
    }

    // ---- CALLS ----

    private boolean hasNoRoomForCallOf(int standIn) {
        if (awaitsCall()) {
            return state == TOLD && standIn == awaited && tellingsMade >= TELLINGS;
        }
        return notebook.size >= NOTES;
    }

    /** A null stands where the METHOD has no such PARAMETER: there is nothing to look at. */
    private Matcher matcherOf(int parameter, int parameters, int x) {
        if (parameter >= parameters) {
            return null;
        }
        return parameter < stack.size ? stack.held[parameter] : new Matcher(IS, x, null, null);
    }

    private long noteAndAnswer(Method method, int a, int b) {
        Note note = notebook.add(asked, a, b);
        note.answeredBy = tellingFor(note);
        state = CALLED;
        if (note.answeredBy != NONE) {
            return tellings[note.answeredBy].answerTo(note, method);
        }
        switch (kinds[note.standIn]) {
            case QUIET: return 0;
            case REAL: return method.realResult(note);
            default: return UNTOLD;
        }
    }

    // ---- CHECKS ----

    private long doCheck() {
        findAbove(mode == IN_ORDER ? place : NONE);
        finding.done = true;
        finding.passed = passes();
        if (finding.passed) {
            if (mode == IN_ORDER) {
                finding.size = modeNumber;
                place = finding.numbers[modeNumber - 1];
            }
            seeAndCatch();
        }
        state = IDLE;
        return finding.passed ? PASSED : BROKEN;
    }

    private void findAbove(int number) {
        finding.size = 0;
        for (int k = 0; k < notebook.size; k++) {
            Note note = notebook.notes[k];
            if (note.number > number && asked.matches(note)) {
                finding.add(k, note.number);
            }
        }
    }

    private boolean passes() {
        switch (mode) {
            case TIMES: return finding.size == modeNumber;
            case LEAST:
            case IN_ORDER: return finding.size >= modeNumber;
            case MOST: return finding.size <= modeNumber;
            default: return finding.size == 1 && notebook.manyOf(asked.standIn) == 1;
        }
    }

    private void seeAndCatch() {
        for (int i = 0; i < finding.size; i++) {
            Note note = notebook.notes[finding.indexes[i]];
            note.seen = true;
            if (Matcher.isCatch(asked.first)) {
                catches.add(note.a);
            }
            if (Matcher.isCatch(asked.second)) {
                catches.add(note.b);
            }
        }
    }

    // ---- the parts ----

    private static final class Method {
        private int parameters = 0;
        private boolean gives = true;

        private boolean canDo(int kind, int v) {
            if (kind == ECHO && v >= parameters) {
                return false;
            }
            return gives || kind == THROW;
        }

        private int realResult(Note note) {
            return gives ? 7 * note.method + 3 * note.a - note.b : 0;
        }
    }

    private static final class Matcher {
        private final int kind;
        private final int v;
        private final Matcher lower;
        private final Matcher upper;
        private final int size;

        private Matcher(int kind, int v, Matcher lower, Matcher upper) {
            this.kind = kind;
            this.v = v;
            this.lower = lower;
            this.upper = upper;
            this.size = 1 + sizeOf(lower) + sizeOf(upper);
        }

        private static int takenBy(int kind) {
            switch (kind) {
                case BOTH:
                case EITHER: return 2;
                case NOT: return 1;
                default: return 0;
            }
        }

        private static int sizeOf(Matcher matcher) {
            return matcher == null ? 0 : matcher.size;
        }

        private static boolean isCatch(Matcher matcher) {
            return matcher != null && matcher.kind == CATCH;
        }

        /** The depth stays at 8 or less, since matcher() makes none of a SIZE above 8. */
        private static boolean accepts(Matcher matcher, int x) {
            if (matcher == null) {
                return true;
            }
            switch (matcher.kind) {
                case IS: return x == matcher.v;
                case LESS: return x < matcher.v;
                case MORE: return x > matcher.v;
                case BOTH: return accepts(matcher.lower, x) && accepts(matcher.upper, x);
                case EITHER: return accepts(matcher.lower, x) || accepts(matcher.upper, x);
                case NOT: return !accepts(matcher.lower, x);
                default: return true;
            }
        }
    }

    private static final class Stack {
        private final Matcher[] held = new Matcher[STACK_ROOM];
        private int size = 0;

        private boolean hasRoomFor(int taken) {
            int sizes = 1;
            for (int i = Math.max(size - taken, 0); i < size; i++) {
                sizes += Matcher.sizeOf(held[i]);
            }
            return size - taken < STACK_ROOM && sizes <= LARGEST;
        }

        private void push(Matcher matcher) {
            if (size < STACK_ROOM) {
                held[size] = matcher;
                size++;
            }
        }

        private Matcher pop() {
            if (size == 0) {
                return null;
            }
            size--;
            return held[size];
        }
    }

    /** Which CALLS are meant: those of one METHOD of one STAND-IN that the MATCHERS accept. */
    private static final class Pattern {
        private int standIn = NONE;
        private int method = NONE;
        private Matcher first = null;
        private Matcher second = null;

        private void copy(Pattern other) {
            standIn = other.standIn;
            method = other.method;
            first = other.first;
            second = other.second;
        }

        private boolean matches(Note note) {
            return note.standIn == standIn && note.method == method
                    && Matcher.accepts(first, note.a) && Matcher.accepts(second, note.b);
        }
    }

    private static final class Answers {
        private final int[] kinds = new int[ANSWERS];
        private final int[] values = new int[ANSWERS];
        private int size = 0;

        private void add(int kind, int v) {
            if (size < ANSWERS) {
                kinds[size] = kind;
                values[size] = v;
                size++;
            }
        }

        private void takeAllOf(Answers other) {
            for (int i = 0; i < other.size; i++) {
                add(other.kinds[i], other.values[i]);
            }
            other.size = 0;
        }

        private boolean allDoFor(Method method) {
            for (int i = 0; i < size; i++) {
                if (!method.canDo(kinds[i], values[i])) {
                    return false;
                }
            }
            return true;
        }

        private long spokenTo(int i, Note note, Method method) {
            switch (kinds[i]) {
                case GIVE: return method.gives ? values[i] : 0;
                case THROW: return THROWN + values[i];
                case ECHO: return values[i] == 0 ? note.a : note.b;
                default: return method.realResult(note);
            }
        }
    }

    private static final class Telling {
        private final Pattern pattern = new Pattern();
        private final Answers answers = new Answers();
        private int next = 0;
        private int timesAnswered = 0;
        private boolean gone = false;

        private long answerTo(Note note, Method method) {
            int used = next;
            if (next < answers.size - 1) {
                next++;
            }
            timesAnswered++;
            return answers.spokenTo(used, note, method);
        }
    }

    private static final class Note {
        private int number = NONE;
        private int standIn = NONE;
        private int method = NONE;
        private int a = 0;
        private int b = 0;
        private boolean seen = false;
        private int answeredBy = NONE;
    }

    private static final class Notebook {
        private final Note[] notes = new Note[NOTES];
        private int size = 0;
        private int nextNumber = 0;

        private Notebook() {
            for (int k = 0; k < notes.length; k++) {
                notes[k] = new Note();
            }
        }

        private Note add(Pattern asked, int a, int b) {
            Note note = notes[size];
            note.number = nextNumber;
            note.standIn = asked.standIn;
            note.method = asked.method;
            note.a = a;
            note.b = b;
            note.seen = false;
            size++;
            nextNumber++;
            return note;
        }

        private void takeBackLast() {
            if (size > 0) {
                size--;
            }
        }

        private int manyOf(int standIn) {
            int many = 0;
            for (int k = 0; k < size; k++) {
                if (notes[k].standIn == standIn) {
                    many++;
                }
            }
            return many;
        }

        private int firstUnseenOf(int standIn) {
            for (int k = 0; k < size; k++) {
                if (notes[k].standIn == standIn && !notes[k].seen) {
                    return notes[k].number;
                }
            }
            return ALL_SEEN;
        }
    }

    /** What the latest CHECK came to: where the CALLS stand in the notebook, and their NUMBERS. */
    private static final class Finding {
        private final int[] indexes = new int[NOTES];
        private final int[] numbers = new int[NOTES];
        private int size = 0;
        private boolean done = false;
        private boolean passed = false;

        private void add(int index, int number) {
            if (size < NOTES) {
                indexes[size] = index;
                numbers[size] = number;
                size++;
            }
        }
    }

    /** Only the latest ones can be asked for, so older ones are written over. */
    private static final class Catches {
        private final int[] ring = new int[CATCHES];
        private int next = 0;
        private int kept = 0;
        private int total = 0;

        private void add(int x) {
            ring[next] = x;
            next = next + 1 < CATCHES ? next + 1 : 0;
            kept = Math.min(kept + 1, CATCHES);
            total++;
        }

        private int beforeLatest(int k) {
            int i = next - 1 - k;
            return ring[i >= 0 ? i : i + CATCHES];
        }
    }
}
