/**
 * A machine for programs over counters that count up and down. It makes plain steps, and leaps
 * through loops, also such as have drains in them, by many passes at once.
 *
 * All rows are made with the object and used again, so that no call makes an object.
 */
public final class CounterLeaper {
    public static final int NONE = -1;

    private static final int COUNTERS = 8;
    private static final int LIMIT = 1000000;
    private static final long STEP_LIMIT = 1000000000000000L;
    private static final int TEXT_LIMIT = 120;
    private static final int PROGRAM_LIMIT = 24;
    private static final int CALL_LIMIT = 1000;
    private static final int SEEK_LIMIT = 2000;

    private static final int PLUS = 0;
    private static final int MINUS = 1;
    private static final int GO = 2;
    private static final int POINT = 3;

    private static final int RUNNING = 0;
    private static final int HALTED = 1;
    private static final int STUCK = 2;
    private static final int ENDLESS = 3;

    private final char[] text = new char[TEXT_LIMIT];
    private int textLength;
    private final Reader reader = new Reader();

    /** A text is read into the draft, so that a fault leaves the program as it was. */
    private Program program = new Program();
    private Program draft = new Program();

    private final Machine machine = new Machine();
    private final Machine begun = new Machine();
    private final Machine kept = new Machine();
    private final Pass pass = new Pass();

    private boolean leapsOn = true;
    private int leapCount;
    private int leapHead;
    private long leapPasses;
    private long leapSteps;

    public CounterLeaper() {
    }

    public int type(long characters, int n) throws IllegalArgumentException, UnsupportedOperationException {
        if (n < 1 || n > 8) {
            throw new IllegalArgumentException("n is not 1 .. 8");
        }
        for (int i = 0; i < n; i++) {
            int code = byteOf(characters, i);
            if (code < 32 || code > 126) {
                throw new IllegalArgumentException("a character is not 32 .. 126");
            }
        }
        if (textLength + n > TEXT_LIMIT) {
            throw new UnsupportedOperationException("the text would be too long");
        }
        for (int i = n - 1; i >= 0; i--) {
            text[textLength] = (char) byteOf(characters, i);
            textLength++;
        }
        return textLength;
    }

    public int wipe() {
        int had = textLength;
        textLength = 0;
        return had;
    }

    public int compile() {
        int fault = reader.faultOf(text, textLength, draft);
        if (fault != NONE) {
            return fault + 1;
        }
        draft.findDrains();
        draft.findLoops();
        Program old = program;
        program = draft;
        draft = old;
        begin();
        return 0;
    }

    public int size() {
        return program.count;
    }

    public int instruction(int i, int what) {
        if (i < 0 || i >= program.count) {
            return NONE;
        }
        switch (what) {
            case 0:
                return program.kinds[i];
            case 1:
                return program.counters[i];
            case 2:
                return program.targets[i];
            default:
                return NONE;
        }
    }

    public int loops() {
        return program.loopCount;
    }

    public int loop(int k, int what) {
        if (k < 0 || k >= program.loopCount) {
            return NONE;
        }
        switch (what) {
            case 0:
                return program.loopHeads[k];
            case 1:
                return program.loopEnds[k];
            case 2:
                return program.loopDrains[k];
            default:
                return NONE;
        }
    }

    public void set(int c, int v) throws IllegalArgumentException {
        if (c < 0 || c >= COUNTERS || v < 0 || v > LIMIT) {
            throw new IllegalArgumentException("no such counter or value");
        }
        machine.values[c] = v;
    }

    public void start() throws IllegalStateException {
        if (program.count == 0) {
            throw new IllegalStateException("there is no program");
        }
        begin();
    }

    public void leaps(boolean on) {
        leapsOn = on;
    }

    public int run(int moves) throws IllegalStateException, IllegalArgumentException {
        if (program.count == 0) {
            throw new IllegalStateException("there is no program");
        }
        if (moves < 0 || moves > CALL_LIMIT) {
            throw new IllegalArgumentException("moves is not 0 .. 1000");
        }
        long passes = passesUntil(STEP_LIMIT);
        for (int made = 0; made < moves && stateWith(passes) == RUNNING; made++) {
            move(passes);
            passes = passesUntil(STEP_LIMIT);
        }
        return stateWith(passes);
    }

    public int plain(int steps) throws IllegalStateException, IllegalArgumentException {
        if (program.count == 0) {
            throw new IllegalStateException("there is no program");
        }
        if (steps < 0 || steps > CALL_LIMIT) {
            throw new IllegalArgumentException("steps is not 0 .. 1000");
        }
        int made = 0;
        while (made < steps && !machine.rests(program)) {
            machine.step(program);
            made++;
        }
        return made;
    }

    public int seek(long steps)
            throws IllegalStateException, IllegalArgumentException, UnsupportedOperationException {
        if (program.count == 0) {
            throw new IllegalStateException("there is no program");
        }
        if (steps < 0 || steps > STEP_LIMIT) {
            throw new IllegalArgumentException("steps is not 0 .. 1000000000000000");
        }
        kept.copyFrom(machine);
        machine.copyFrom(begun);
        for (int made = 0; made < SEEK_LIMIT && goesOnUntil(steps); made++) {
            advance(passesUntil(steps));
        }
        if (goesOnUntil(steps)) {
            machine.copyFrom(kept);
            throw new UnsupportedOperationException("it takes too many leaps and steps");
        }
        if (machine.steps == steps) {
            return 1;
        }
        return machine.isHalted(program) ? 0 : 2;
    }

    public int state() {
        return stateWith(passesUntil(STEP_LIMIT));
    }

    public int at() {
        return machine.place;
    }

    public long steps() {
        return machine.steps;
    }

    public int counter(int c) {
        return c < 0 || c >= COUNTERS ? NONE : machine.values[c];
    }

    public int change(int k, int c) throws IndexOutOfBoundsException, UnsupportedOperationException {
        if (k < 0 || k >= program.loopCount || c < 0 || c >= COUNTERS) {
            throw new IndexOutOfBoundsException("no such loop or counter");
        }
        pass.follow(program, k, machine.values);
        if (pass.passesIn(STEP_LIMIT) == 0) {
            throw new UnsupportedOperationException("the pass is not full");
        }
        return pass.changes[c];
    }

    public long leap(int what) {
        if (what == 0) {
            return leapCount;
        }
        if (leapCount == 0) {
            return NONE;
        }
        switch (what) {
            case 1:
                return leapHead;
            case 2:
                return leapPasses;
            case 3:
                return leapSteps;
            default:
                return NONE;
        }
    }

    /** Byte i of a long, counted from the lowest. */
    private static int byteOf(long characters, int i) {
        return (int) (characters >>> (8 * i)) & 255;
    }

    private void begin() {
        machine.place = 0;
        machine.steps = 0;
        begun.copyFrom(machine);
        leapCount = 0;
    }

    /**
     * By how many passes the machine can leap with no more than so many steps made in all; 0 if it
     * cannot. Of an endless loop as many as there are steps for, and the pass then changes nothing.
     */
    private long passesUntil(long allSteps) {
        int k = program.loopFrom(machine.place);
        if (k == NONE) {
            return 0;
        }
        pass.follow(program, k, machine.values);
        return pass.passesIn(allSteps - machine.steps);
    }

    /** The state, if passesUntil(STEP_LIMIT) has just answered so many passes. */
    private int stateWith(long passes) {
        if (machine.isHalted(program)) {
            return HALTED;
        }
        if (machine.isStuck(program)) {
            return STUCK;
        }
        return passes > 0 && pass.changesNothing() ? ENDLESS : RUNNING;
    }

    private void move(long passes) {
        if (leapsOn && passes > 0) {
            leapCount++;
            leapHead = machine.place;
            leapPasses = passes;
            leapSteps = pass.length;
            machine.leapBy(pass, passes);
        } else {
            machine.step(program);
        }
    }

    /** Like a move, but seek() leaps also while leaps are off, and its leaps are not counted. */
    private void advance(long passes) {
        if (passes > 0) {
            machine.leapBy(pass, passes);
        } else {
            machine.step(program);
        }
    }

    private boolean goesOnUntil(long allSteps) {
        return machine.steps < allSteps && !machine.rests(program);
    }

    /** Instructions, and the drains and loops found among them; none before a text was read. */
    private static final class Program {
        private final int[] kinds = new int[PROGRAM_LIMIT];
        private final int[] counters = new int[PROGRAM_LIMIT];
        private final int[] targets = new int[PROGRAM_LIMIT];
        private int count;

        /** By instruction: the end of the drain that begins there, the loop whose head it is. */
        private final int[] drainEnds = new int[PROGRAM_LIMIT];
        private final int[] loopsByHead = new int[PROGRAM_LIMIT];

        private final int[] loopHeads = new int[PROGRAM_LIMIT];
        private final int[] loopEnds = new int[PROGRAM_LIMIT];
        private final int[] loopDrains = new int[PROGRAM_LIMIT];
        private int loopCount;

        private void add(int kind, int counter) {
            kinds[count] = kind;
            counters[count] = counter;
            targets[count] = NONE;
            count++;
        }

        private boolean isFull() {
            return count >= PROGRAM_LIMIT;
        }

        private void findDrains() {
            for (int i = 0; i < count; i++) {
                drainEnds[i] = drainEndFrom(i);
            }
        }

        private int drainEndFrom(int first) {
            if (kinds[first] != MINUS) {
                return NONE;
            }
            int i = first + 1;
            while (i < count && kinds[i] == PLUS && counters[i] != counters[first]) {
                i++;
            }
            boolean closes = i < count && kinds[i] == GO && targets[i] == first;
            return closes && targets[first] == i + 1 ? i : NONE;
        }

        private void findLoops() {
            loopCount = 0;
            for (int i = 0; i < count; i++) {
                loopsByHead[i] = NONE;
                addLoopFrom(i);
            }
        }

        private void addLoopFrom(int head) {
            int drains = 0;
            int i = head;
            while (i < count && (kinds[i] == PLUS || kinds[i] == MINUS)) {
                int drainEnd = drainInLoop(head, i);
                if (drainEnd != NONE) {
                    drains++;
                }
                i = Math.max(i, drainEnd) + 1;
            }
            if (i > head && i < count && kinds[i] == GO && targets[i] == head) {
                loopsByHead[head] = loopCount;
                loopHeads[loopCount] = head;
                loopEnds[loopCount] = i;
                loopDrains[loopCount] = drains;
                loopCount++;
            }
        }

        /** The end of the drain that begins at i; at the head of a loop a drain is not taken whole. */
        private int drainInLoop(int head, int i) {
            return i == head ? NONE : drainEnds[i];
        }

        private int loopFrom(int place) {
            return place < 0 || place >= count ? NONE : loopsByHead[place];
        }
    }

    /** Reads a text, character by character, into a program. */
    private static final class Reader {
        private static final int LETTERS = 26;

        /** What must come next; labels may come before an instruction, and the text end behind one. */
        private static final int AN_INSTRUCTION = 0;
        private static final int A_COLON = 1;
        private static final int A_COUNTER = 2;
        private static final int A_LABEL = 3;
        private static final int A_SEMICOLON = 4;

        private final int[] placesOfLabels = new int[LETTERS];
        private final int[] namedLabels = new int[PROGRAM_LIMIT];
        private final int[] namedAt = new int[PROGRAM_LIMIT];
        private Program into;
        private int next;
        private int letter;
        private int kind;
        private int counter;
        private boolean labelled;

        /** The place of the text's fault; NONE if the program now is what the text says. */
        private int faultOf(char[] text, int length, Program program) {
            clear(program);
            for (int i = 0; i < length; i++) {
                if (text[i] != ' ' && !accepts(text[i], i)) {
                    return i;
                }
            }
            return mayEnd() ? faultOfLabels() : length;
        }

        private void clear(Program program) {
            into = program;
            into.count = 0;
            next = AN_INSTRUCTION;
            labelled = false;
            for (int i = 0; i < LETTERS; i++) {
                placesOfLabels[i] = NONE;
            }
        }

        private boolean accepts(char c, int place) {
            switch (next) {
                case AN_INSTRUCTION:
                    return acceptsFirst(c);
                case A_COLON:
                    return acceptsColon(c);
                case A_COUNTER:
                    return acceptsCounter(c);
                case A_LABEL:
                    return acceptsNamed(c, place);
                default:
                    return acceptsSemicolon(c);
            }
        }

        private boolean acceptsFirst(char c) {
            if (into.isFull()) {
                return false;
            }
            if (isLabel(c)) {
                letter = c - 'A';
                next = A_COLON;
                return placesOfLabels[letter] == NONE;
            }
            counter = NONE;
            switch (c) {
                case '+':
                    expect(PLUS, A_COUNTER);
                    return true;
                case '-':
                    expect(MINUS, A_COUNTER);
                    return true;
                case '>':
                    expect(GO, A_LABEL);
                    return true;
                case '.':
                    kind = POINT;
                    finish();
                    return true;
                default:
                    return false;
            }
        }

        private void expect(int kindOfIt, int nextOfIt) {
            kind = kindOfIt;
            next = nextOfIt;
        }

        private boolean acceptsColon(char c) {
            if (c != ':') {
                return false;
            }
            placesOfLabels[letter] = into.count;
            labelled = true;
            next = AN_INSTRUCTION;
            return true;
        }

        private boolean acceptsCounter(char c) {
            if (c < 'a' || c >= 'a' + COUNTERS) {
                return false;
            }
            counter = c - 'a';
            if (kind == MINUS) {
                next = A_LABEL;
            } else {
                finish();
            }
            return true;
        }

        private boolean acceptsNamed(char c, int place) {
            if (!isLabel(c)) {
                return false;
            }
            namedLabels[into.count] = c - 'A';
            namedAt[into.count] = place;
            finish();
            return true;
        }

        private boolean acceptsSemicolon(char c) {
            next = AN_INSTRUCTION;
            return c == ';';
        }

        private void finish() {
            into.add(kind, counter);
            labelled = false;
            next = A_SEMICOLON;
        }

        private boolean mayEnd() {
            boolean behindOne = next == A_SEMICOLON;
            boolean behindSemicolon = next == AN_INSTRUCTION && into.count > 0 && !labelled;
            return behindOne || behindSemicolon;
        }

        /** Leads the instructions to their labels: where the first that stands nowhere is named. */
        private int faultOfLabels() {
            for (int i = 0; i < into.count; i++) {
                if (into.kinds[i] == MINUS || into.kinds[i] == GO) {
                    into.targets[i] = placesOfLabels[namedLabels[i]];
                    if (into.targets[i] == NONE) {
                        return namedAt[i];
                    }
                }
            }
            return NONE;
        }

        private static boolean isLabel(char c) {
            return c >= 'A' && c <= 'Z';
        }
    }

    /** Where a run is: the instruction, the steps that were made, the values of the counters. */
    private static final class Machine {
        private final int[] values = new int[COUNTERS];
        private int place;
        private long steps;

        private void copyFrom(Machine other) {
            System.arraycopy(other.values, 0, values, 0, COUNTERS);
            place = other.place;
            steps = other.steps;
        }

        private boolean isHalted(Program program) {
            return place >= program.count || program.kinds[place] == POINT;
        }

        private boolean isStuck(Program program) {
            if (isHalted(program)) {
                return false;
            }
            boolean atLimit = program.kinds[place] == PLUS && values[program.counters[place]] >= LIMIT;
            return atLimit || steps >= STEP_LIMIT;
        }

        private boolean rests(Program program) {
            return isHalted(program) || isStuck(program);
        }

        private void step(Program program) {
            if (rests(program)) {
                return;
            }
            int kind = program.kinds[place];
            int c = program.counters[place];
            steps++;
            if (kind == PLUS) {
                values[c]++;
                place++;
            } else if (kind == MINUS && values[c] > 0) {
                values[c]--;
                place++;
            } else {
                place = program.targets[place];
            }
        }

        /** A leap ends at the head, where it began. */
        private void leapBy(Pass pass, long passes) {
            for (int c = 0; c < COUNTERS; c++) {
                values[c] += (int) (passes * pass.changes[c]);
            }
            steps += passes * pass.length;
        }
    }

    /** One pass of a loop, followed item by item, a drain as one item, and what it did. */
    private static final class Pass {
        private final int[] values = new int[COUNTERS];
        private final int[] lows = new int[COUNTERS];
        private final int[] highs = new int[COUNTERS];
        private final int[] changes = new int[COUNTERS];
        private final boolean[] drained = new boolean[COUNTERS];
        private boolean full;
        private long length;

        private void follow(Program program, int k, int[] from) {
            clear(from);
            int head = program.loopHeads[k];
            int end = program.loopEnds[k];
            int i = head;
            while (i < end && full) {
                int drainEnd = program.drainInLoop(head, i);
                if (drainEnd == NONE) {
                    count(program.counters[i], program.kinds[i] == PLUS ? 1 : -1);
                    length++;
                } else {
                    drain(program, i, drainEnd);
                }
                i = Math.max(i, drainEnd) + 1;
            }
            length++;
            for (int c = 0; c < COUNTERS; c++) {
                changes[c] = values[c] - from[c];
            }
        }

        private void clear(int[] from) {
            full = true;
            length = 0;
            for (int c = 0; c < COUNTERS; c++) {
                values[c] = from[c];
                lows[c] = from[c];
                highs[c] = from[c];
                drained[c] = false;
            }
        }

        /** Below 0 the - would go by its label, and above LIMIT the + gets stuck: then it is not full. */
        private void count(int c, int by) {
            int value = values[c] + by;
            if (value < 0 || value > LIMIT) {
                full = false;
                return;
            }
            values[c] = value;
            lows[c] = Math.min(lows[c], value);
            highs[c] = Math.max(highs[c], value);
        }

        private void drain(Program program, int first, int end) {
            int c = program.counters[first];
            int rounds = values[c];
            for (int i = first + 1; i < end; i++) {
                count(program.counters[i], rounds);
            }
            values[c] = 0;
            drained[c] = true;
            length += (long) rounds * (end - first + 1) + 1;
        }

        private boolean changesNothing() {
            for (int c = 0; c < COUNTERS; c++) {
                if (changes[c] != 0) {
                    return false;
                }
            }
            return true;
        }

        private boolean changesDrained() {
            for (int c = 0; c < COUNTERS; c++) {
                if (drained[c] && changes[c] != 0) {
                    return true;
                }
            }
            return false;
        }

        /** How many passes a leap makes if there are so many steps for them; 0 if none is full. */
        private long passesIn(long stepsLeft) {
            if (!full || length < 1 || stepsLeft < length) {
                return 0;
            }
            if (changesDrained()) {
                return 1;
            }
            long passes = stepsLeft / length;
            for (int c = 0; c < COUNTERS; c++) {
                passes = Math.min(passes, passesOf(c));
            }
            return passes;
        }

        /**
         * How many passes counter c leaves room for. As the drains run alike in each pass, its lowest
         * and highest value move by its change from pass to pass.
         */
        private long passesOf(int c) {
            if (changes[c] > 0) {
                return (LIMIT - highs[c]) / changes[c] + 1;
            }
            if (changes[c] < 0) {
                return lows[c] / -changes[c] + 1;
            }
            return STEP_LIMIT;
        }
    }
}
