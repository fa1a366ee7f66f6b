/** The sentences of the promises, call by call: each edge of the arguments, and each refused call. */
public final class CallBoundariesTest {
    private static final int NONE = CounterLeaper.NONE;
    private static final int LIMIT = 1000000;
    private static final long MOST = Check.MOST;
    private static final int[] FAR = {
        Integer.MIN_VALUE, Integer.MIN_VALUE + 1, Integer.MAX_VALUE - 1, Integer.MAX_VALUE,
    };

    private static final Class<IllegalArgumentException> ARGUMENT = IllegalArgumentException.class;
    private static final Class<IllegalStateException> NO_PROGRAM = IllegalStateException.class;
    private static final Class<UnsupportedOperationException> UNSUPPORTED = UnsupportedOperationException.class;
    private static final Class<IndexOutOfBoundsException> INDEX = IndexOutOfBoundsException.class;

    /** b for every a; a drain, and so a loop, too. */
    private static final String MOVE = "A:-aB;+b;>A;B:.";
    private static final String FOREVER = "A:>A";

    private CallBoundariesTest() {
    }

    public static void main(String[] args) {
        newObject();
        withoutAProgram();
        typeTakesOneToEight();
        typeNamesTheArgumentFirst();
        wipeTellsHowMany();
        compileStarts();
        compileWithAFault();
        sizeOfAProgram();
        instructionsThatAreNot();
        loopsThatAreNot();
        setWithin();
        startBegins();
        leapsStay();
        runWithin();
        runStops();
        plainWithin();
        plainStops();
        seekWithin();
        seekHaltedOrStuck();
        seekMakesNoMorePasses();
        seekTwoThousand();
        seekLeavesTheLeaps();
        stateOfEach();
        atAndSteps();
        counterWithin();
        changeWithin();
        leapsSinceItWasStarted();
        Check.end();
    }

    /** 1: "An empty text, no program, all counters 0, no steps, leaps are on." */
    private static void newObject() {
        CounterLeaper x = new CounterLeaper();
        Check.same("new", Check.picture(x), "state 1 at 0 steps 0 with 0 0 0 0 0 0 0 0 leaps 0 -1 -1 -1");
        Check.due("new: size()", x.size(), 0);
        Check.due("new: an empty text has its fault at its end", x.compile(), 1);
        Check.due("new: wipe()", x.wipe(), 0);
        Check.due("new: leaps are on", leaptBy(Check.started(MOVE, 5)), 5);
        // objects have nothing in common
        CounterLeaper y = Check.started(MOVE, 5);
        y.run(1);
        Check.same("new beside another", Check.picture(new CounterLeaper()), Check.picture(x));
    }

    private static long leaptBy(CounterLeaper x) {
        x.run(1);
        return x.leap(2);
    }

    /** "IllegalStateException, where nothing else is said: there is no program." */
    private static void withoutAProgram() {
        refusedWithoutAProgram(new CounterLeaper());
        refusedWithoutAProgram(Check.typed(MOVE));
        CounterLeaper faulty = Check.typed("?");
        faulty.compile();
        refusedWithoutAProgram(faulty);
    }

    private static void refusedWithoutAProgram(CounterLeaper x) {
        x.set(2, 9);
        Check.refused("start(), no program", NO_PROGRAM, x, x::start);
        for (int n : new int[] {0, 1, 1000, -1, 1001, Integer.MAX_VALUE}) {
            Check.refused("run(" + n + "), no program", NO_PROGRAM, x, () -> x.run(n));
            Check.refused("plain(" + n + "), no program", NO_PROGRAM, x, () -> x.plain(n));
            Check.refused("seek(" + n + "), no program", NO_PROGRAM, x, () -> x.seek(n));
        }
        Check.refused("seek(), too far, no program", NO_PROGRAM, x, () -> x.seek(MOST + 1));
        Check.refused("change(), no program", INDEX, x, () -> x.change(0, 0));
        Check.due("loops(), no program", x.loops(), 0);
        Check.due("loop(), no program", x.loop(0, 0), NONE);
        Check.due("instruction(), no program", x.instruction(0, 0), NONE);
        Check.due("state(), no program", x.state(), 1);
        Check.due("counter(), no program", x.counter(2), 9);
    }

    /** 2: "n is not 1 .. 8" */
    private static void typeTakesOneToEight() {
        CounterLeaper x = Check.typed("+a");
        int length = 2;
        for (int n = 1; n <= 8; n++) {
            length += n;
            Check.due("type(), n = " + n, x.type(0x2020202020202020L, n), length);
        }
        for (int n : new int[] {-1, 0, 9, -8, 16, 257, 264, FAR[0], FAR[1], FAR[2], FAR[3]}) {
            Check.refused("type(), n = " + n, ARGUMENT, x, () -> x.type(0x2020202020202020L, n));
        }
        Check.due("type(), what was refused did not come", x.wipe(), length);
        // the highest of the n first, and those above them do not count
        String text = "+a;-bA;A";
        long all = 0;
        for (int i = 0; i < 8; i++) {
            all = all << 8 | text.charAt(i);
        }
        x.type(all, 8);
        x.type(0xFF00FF00FF003A2EL, 2);
        Check.due("type(), the highest first: compile()", x.compile(), 0);
        Check.due("type(), the highest first: size()", x.size(), 3);
        Check.due("type(), the highest first: -b", x.instruction(1, 1), 1);
    }

    /** 2, and "the one named first when several would do" */
    private static void typeNamesTheArgumentFirst() {
        CounterLeaper x = Check.typed(" ".repeat(120));
        Check.refused("type(), full", UNSUPPORTED, x, () -> x.type(' ', 1));
        Check.refused("type(), full and n = 0", ARGUMENT, x, () -> x.type(' ', 0));
        Check.refused("type(), full and n = 9", ARGUMENT, x, () -> x.type(' ', 9));
        Check.refused("type(), full and code 31", ARGUMENT, x, () -> x.type(31, 1));
        Check.refused("type(), full and code 127 as the lowest", ARGUMENT, x, () -> x.type(0x20202020_2020207FL, 8));
        Check.refused("type(), full and code 128 as the highest", ARGUMENT, x, () -> x.type(0x80202020_20202020L, 8));
        Check.due("type(), the text is full still", x.wipe(), 120);
        Check.due("type(), wiped", x.type(' ', 1), 1);
    }

    /** 3: "The text is empty: how many characters it had." */
    private static void wipeTellsHowMany() {
        for (int n : new int[] {0, 1, 8, 119, 120}) {
            CounterLeaper x = Check.typed(" ".repeat(n));
            Check.due("wipe() of " + n, x.wipe(), n);
            Check.due("wipe() of " + n + ", again", x.wipe(), 0);
            Check.due("wipe() of " + n + ", the text is empty", x.compile(), 1);
        }
        CounterLeaper y = Check.started(MOVE, 5);
        y.run(1);
        String before = Check.picture(y);
        y.wipe();
        Check.same("wipe(), all else stays", Check.picture(y), before);
        Check.type(y, ".");
        Check.due("wipe(), nothing of the old text is read", y.compile(), 0);
        Check.due("wipe(), the new text alone", y.size(), 1);
    }

    /** 4: "The text (which stays) is read: 0, the program is that, and it is started (as by start())" */
    private static void compileStarts() {
        CounterLeaper x = Check.started(MOVE, 5);
        x.leaps(false);
        x.run(4);
        x.leaps(true);
        x.run(3);
        Check.due("compile(), before: leap(0)", x.leap(0), 1);
        Check.due("compile(), the text stayed", x.compile(), 0);
        Check.due("compile(): at()", x.at(), 0);
        Check.due("compile(): steps()", x.steps(), 0);
        Check.due("compile(): leap(0)", x.leap(0), 0);
        Check.due("compile(): leap(1)", x.leap(1), NONE);
        Check.due("compile(): the counters stay", x.counter(1), 5);
        x.set(1, 77);
        x.seek(0);
        Check.due("compile(): it begins with them", x.counter(1), 5);
        // text that comes behind is read with it
        Check.type(x, ";+h");
        Check.due("compile() of more text", x.compile(), 0);
        Check.due("compile() of more text: size()", x.size(), 5);
        Check.due("compile() of more text: wipe()", x.wipe(), 18);
        // nothing is left of a larger program
        Check.type(x, "+c");
        x.compile();
        Check.same("compile(), a smaller program", Check.picture(x),
                "0 2 -1; state 0 at 0 steps 0 with 0 5 0 0 0 0 0 0 leaps 0 -1 -1 -1");
    }

    /** 4: "or the place (from 0) of its fault and 1, and nothing changes" */
    private static void compileWithAFault() {
        for (String fault : new String[] {"?", ";A", ";A:", ";;", ";+", ";-a", ";>Z", ";-cY", ";B:.", ";.;.;>Z"}) {
            CounterLeaper x = Check.started(MOVE, 5, 3);
            x.run(1);
            x.set(4, 44);
            String before = Check.picture(x);
            Check.type(x, fault);
            Check.due("compile() with " + fault, x.compile() > 15 ? 1 : 0, 1);
            Check.same("compile() with " + fault + " changes nothing", Check.picture(x), before);
            Check.due("compile() with " + fault + ", the text stays", x.wipe(), 15 + fault.length());
            x.run(9);
            Check.due("compile() with " + fault + ", it runs on", x.state(), 1);
            x.seek(3);
            Check.due("compile() with " + fault + ", it began as before", x.counter(1), 4);
            Check.due("compile() with " + fault + ", it began as before: e", x.counter(4), 0);
        }
        Check.due("compile(), a fault at place 0", Check.typed("?").compile(), 1);
        Check.due("compile(), a fault at place 119", Check.typed(" ".repeat(119) + "?").compile(), 120);
        Check.due("compile(), a fault at the end", Check.typed(" ".repeat(120)).compile(), 121);
    }

    /** 5: "How many instructions the program has; 0 without one." */
    private static void sizeOfAProgram() {
        Check.due("size(), new", new CounterLeaper().size(), 0);
        CounterLeaper x = Check.typed("?");
        x.compile();
        Check.due("size(), only faults", x.size(), 0);
        Check.due("size(), 1", Check.compiled(".").size(), 1);
        Check.due("size(), 24", Check.compiled("+a;".repeat(24)).size(), 24);
    }

    /** 6: "NONE for what it does not have, another what, and without such an instruction" */
    private static void instructionsThatAreNot() {
        CounterLeaper x = Check.compiled("A:+h;-hA;>A;." + ";.".repeat(20));
        int[][] want = {{0, 7, NONE}, {1, 7, 0}, {2, NONE, 0}, {3, NONE, NONE}};
        for (int i = 0; i < 4; i++) {
            for (int what = 0; what < 3; what++) {
                Check.due("instruction(" + i + ", " + what + ")", x.instruction(i, what), want[i][what]);
            }
            Check.due("instruction(" + i + ", 3)", x.instruction(i, 3), NONE);
            Check.due("instruction(" + i + ", -1)", x.instruction(i, -1), NONE);
        }
        Check.due("instruction(23, 0), the last", x.instruction(23, 0), 3);
        for (int what = 0; what < 3; what++) {
            Check.due("instruction(24, " + what + ")", x.instruction(24, what), NONE);
            Check.due("instruction(-1, " + what + ")", x.instruction(-1, what), NONE);
        }
        for (int far : FAR) {
            Check.due("instruction(" + far + ", 0)", x.instruction(far, 0), NONE);
            Check.due("instruction(0, " + far + ")", x.instruction(0, far), NONE);
            Check.due("instruction(" + far + ", " + far + ")", x.instruction(far, far), NONE);
        }
        CounterLeaper y = Check.compiled(".;".repeat(23) + "A:>A");
        Check.due("instruction(23, 2), to itself", y.instruction(23, 2), 23);
    }

    /** 7 and 8: "NONE for another what, and without such a loop" */
    private static void loopsThatAreNot() {
        CounterLeaper x = Check.compiled("A:+h;B:-aC;>B;C:>A;D:-bD;>D");
        Check.due("loops()", x.loops(), 3);
        int[][] want = {{0, 3, 1}, {1, 2, 0}, {4, 5, 0}};
        for (int k = 0; k < 3; k++) {
            for (int what = 0; what < 3; what++) {
                Check.due("loop(" + k + ", " + what + ")", x.loop(k, what), want[k][what]);
            }
            Check.due("loop(" + k + ", 3)", x.loop(k, 3), NONE);
            Check.due("loop(" + k + ", -1)", x.loop(k, -1), NONE);
        }
        for (int what = 0; what < 3; what++) {
            Check.due("loop(3, " + what + ")", x.loop(3, what), NONE);
            Check.due("loop(-1, " + what + ")", x.loop(-1, what), NONE);
        }
        for (int far : FAR) {
            Check.due("loop(" + far + ", 0)", x.loop(far, 0), NONE);
            Check.due("loop(0, " + far + ")", x.loop(0, far), NONE);
        }
        Check.due("loops(), none", Check.compiled(FOREVER).loops(), 0);
        Check.due("loop(0, 0), none", Check.compiled(FOREVER).loop(0, 0), NONE);
    }

    /** 9: "c is not 0 .. 7, or v not 0 .. 1000000" */
    private static void setWithin() {
        CounterLeaper x = Check.started(MOVE, 5);
        x.run(1);
        for (int c = 0; c < 8; c++) {
            for (int v : new int[] {LIMIT, 1, 0, LIMIT - 1}) {
                x.set(c, v);
                Check.due("set(" + c + ", " + v + ")", x.counter(c), v);
            }
            for (int v : new int[] {-1, LIMIT + 1, FAR[0], FAR[3]}) {
                int counter = c;
                Check.refused("set(" + c + ", " + v + ")", ARGUMENT, x, () -> x.set(counter, v));
            }
        }
        for (int c : new int[] {-1, 8, FAR[0], FAR[3]}) {
            Check.refused("set(" + c + ", 0)", ARGUMENT, x, () -> x.set(c, 0));
            Check.refused("set(" + c + ", -1)", ARGUMENT, x, () -> x.set(c, -1));
        }
        // a counter alone: where it is, its steps, its leaps and what it began with stay
        Check.due("set(): at()", x.at(), 0);
        Check.due("set(): steps()", x.steps(), 15);
        Check.due("set(): leap(2)", x.leap(2), 5);
        x.seek(0);
        Check.due("set(), it began with a", x.counter(0), 5);
        Check.due("set(), it began with h", x.counter(7), 0);
    }

    /** 10: "The machine is at instruction 0, no steps and no leaps were made; the values .. with which it BEGINS." */
    private static void startBegins() {
        CounterLeaper x = Check.started(MOVE, 5);
        x.run(9);
        Check.due("start(), before: state()", x.state(), 1);
        x.start();
        Check.same("start(), halted before", Check.where(x), "state 0 at 0 steps 0 with 0 5 0 0 0 0 0 0");
        Check.due("start(): leap(0)", x.leap(0), 0);
        Check.due("start(): leap(1)", x.leap(1), NONE);
        Check.due("start(): leap(2)", x.leap(2), NONE);
        Check.due("start(): leap(3)", x.leap(3), NONE);
        x.set(0, 2);
        Check.due("start(), what is set behind it is not what it begins with", x.seek(1), 1);
        Check.same("start(), a is 0 still", Check.where(x), "state 1 at 3 steps 1 with 0 5 0 0 0 0 0 0");
        CounterLeaper late = Check.late("+a", 0, 7);
        late.start();
        Check.due("start(), when all steps were made: steps()", late.steps(), 0);
        Check.due("start(), when all steps were made: run()", late.run(1), 0);
        CounterLeaper y = Check.started(FOREVER);
        y.set(3, 33);
        y.start();
        y.set(3, 0);
        y.seek(0);
        Check.due("start(), it begins with what was set", y.counter(3), 33);
    }

    /** 11: "Leaps are on, or off." */
    private static void leapsStay() {
        CounterLeaper x = new CounterLeaper();
        x.leaps(false);
        Check.type(x, MOVE);
        x.set(0, 5);
        x.compile();
        Check.due("leaps(false) before the program", leaptBy(x), NONE);
        Check.due("leaps(false), a step", x.steps(), 1);
        x.start();
        Check.due("leaps(false) stays with start()", leaptBy(x), NONE);
        x.leaps(false);
        x.leaps(true);
        x.leaps(true);
        x.set(0, 5);
        x.start();
        Check.due("leaps(true)", leaptBy(x), 5);
        x.leaps(false);
        Check.due("leaps(false), the latest leap stays", x.leap(2), 5);
        Check.due("leaps(false), seek() is told by the steps alone", x.seek(9), 1);
        Check.due("leaps(false) stays with seek()", x.run(1), 0);
        Check.due("leaps(false) stays with seek(): steps()", x.steps(), 10);
    }

    /** 12: "moves is not 0 .. 1000" */
    private static void runWithin() {
        CounterLeaper x = Check.started(FOREVER);
        for (int n : new int[] {-1, 1001, FAR[0], FAR[3]}) {
            Check.refused("run(" + n + ")", ARGUMENT, x, () -> x.run(n));
        }
        Check.due("run(0)", x.run(0), 0);
        Check.due("run(0): steps()", x.steps(), 0);
        Check.due("run(1)", x.run(1), 0);
        Check.due("run(1): steps()", x.steps(), 1);
        Check.due("run(1000)", x.run(1000), 0);
        Check.due("run(1000): steps()", x.steps(), 1001);
        // leaps and steps are moves alike: one, one and one
        CounterLeaper y = Check.started("+a;" + MOVE, 5);
        Check.due("run(3)", y.run(3), 1);
        Check.due("run(3): steps()", y.steps(), 1 + 18 + 1);
    }

    /** 12: "but it stops when it is not running any more: the state then" */
    private static void runStops() {
        Check.due("run(0), halted", Check.started(".").run(0), 1);
        Check.due("run(0), stuck", Check.started("+a", LIMIT).run(0), 2);
        Check.due("run(0), endless", Check.started("A:+a;-aA;>A").run(0), 3);
        CounterLeaper x = Check.started("+a;+a", 0);
        Check.due("run(1), running still", x.run(1), 0);
        Check.due("run(1), halted by it", x.run(1), 1);
        CounterLeaper y = Check.started("+a;+a", LIMIT - 1);
        Check.due("run(1), stuck by it", y.run(1), 2);
        CounterLeaper z = Check.started("+b;A:+a;-aA;>A");
        Check.due("run(1), endless by it", z.run(1), 3);
        Check.due("run(1000), endless", z.run(1000), 3);
        Check.due("run(1000), endless: steps()", z.steps(), 1);
        CounterLeaper w = Check.started("A:+a;>A", LIMIT - 3);
        Check.due("run(1), stuck by a leap", w.run(1), 2);
        Check.due("run(1), stuck by a leap: at()", w.at(), 0);
        Check.due("run(1), stuck by a leap: a", w.counter(0), LIMIT);
    }

    /** 13: "steps is not 0 .. 1000" */
    private static void plainWithin() {
        CounterLeaper x = Check.started(FOREVER);
        for (int n : new int[] {-1, 1001, FAR[0], FAR[3]}) {
            Check.refused("plain(" + n + ")", ARGUMENT, x, () -> x.plain(n));
        }
        Check.due("plain(0)", x.plain(0), 0);
        Check.due("plain(1)", x.plain(1), 1);
        Check.due("plain(1000)", x.plain(1000), 1000);
        Check.due("plain(): steps()", x.steps(), 1001);
    }

    /** 13: "but it stops when it is halted or stuck: how many were made" */
    private static void plainStops() {
        Check.due("plain(1), halted", Check.started(".").plain(1), 0);
        Check.due("plain(1), stuck", Check.started("+a", LIMIT).plain(1), 0);
        Check.due("plain(3), halted in it", Check.started("+a;+a").plain(3), 2);
        Check.due("plain(2), halted by it", Check.started("+a;+a").plain(2), 2);
        Check.due("plain(3), stuck in it", Check.started("+a;+a;+a", LIMIT - 2).plain(3), 2);
        Check.due("plain(1000), endless", Check.started("A:+a;-aA;>A").plain(1000), 1000);
        CounterLeaper x = Check.started(MOVE, LIMIT);
        Check.due("plain(1000), where leaps could be made", x.plain(1000), 1000);
        Check.due("plain(1000): leap(0)", x.leap(0), 0);
        Check.due("plain(1000): a", x.counter(0), LIMIT - 334);
        Check.due("plain(), 7 steps left", Check.late(FOREVER, 7).plain(1000), 7);
    }

    /** 14: "steps is not 0 .. 1000000000000000" */
    private static void seekWithin() {
        CounterLeaper x = Check.started("A:+a;-aA;>A");
        x.plain(2);
        for (long n : new long[] {-1, MOST + 1, Long.MIN_VALUE, Long.MAX_VALUE, -MOST, Integer.MIN_VALUE}) {
            Check.refused("seek(" + n + ")", ARGUMENT, x, () -> x.seek(n));
        }
        Check.due("seek(0)", x.seek(0), 1);
        Check.due("seek(0): steps()", x.steps(), 0);
        Check.due("seek(), the most", x.seek(MOST), 1);
        Check.due("seek(), the most: steps()", x.steps(), MOST);
        Check.due("seek(), the most: state()", x.state(), 2);
        Check.due("seek(1), back", x.seek(1), 1);
        Check.due("seek(1), back: a", x.counter(0), 1);
    }

    /** 14: "but if it is halted before that, 0, or stuck, 2, and it becomes that" */
    private static void seekHaltedOrStuck() {
        CounterLeaper x = Check.started("+a;+a", 5);
        Check.due("seek(1), running", x.seek(1), 1);
        Check.due("seek(2), halted just then", x.seek(2), 1);
        Check.due("seek(3), halted before", x.seek(3), 0);
        Check.same("seek(3)", Check.where(x), "state 1 at 2 steps 2 with 7 0 0 0 0 0 0 0");
        Check.due("seek(), the most, halted before", x.seek(MOST), 0);
        Check.due("seek(0), halted at once or not", Check.started(".").seek(0), 1);
        Check.due("seek(1), halted at once", Check.started(".").seek(1), 0);
        CounterLeaper y = Check.started("A:+a;>A", LIMIT - 2);
        Check.due("seek(4), stuck just then", y.seek(4), 1);
        Check.due("seek(5), stuck before", y.seek(5), 2);
        Check.same("seek(5)", Check.where(y), "state 2 at 0 steps 4 with 1000000 0 0 0 0 0 0 0");
        Check.due("seek(), the most, stuck before", y.seek(MOST), 2);
        Check.due("seek(0), stuck at once or not", Check.started("+a", LIMIT).seek(0), 1);
        Check.due("seek(1), stuck at once", Check.started("+a", LIMIT).seek(1), 2);
    }

    /** 14: "By leaps, as far as no more passes are made than there are steps for (of an endless loop also)" */
    private static void seekMakesNoMorePasses() {
        CounterLeaper x = Check.started(MOVE, LIMIT);
        int[] places = {0, 1, 2};
        for (long n : new long[] {0, 1, 2, 3, 4, 5, 1499999, 1500000, 1500001, 2999998, 2999999}) {
            Check.due("seek(" + n + ")", x.seek(n), 1);
            Check.due("seek(" + n + "): steps()", x.steps(), n);
            Check.due("seek(" + n + "): at()", x.at(), places[(int) (n % 3)]);
            Check.due("seek(" + n + "): a", x.counter(0), LIMIT - (n + 2) / 3);
            Check.due("seek(" + n + "): b", x.counter(1), (n + 1) / 3);
        }
        Check.due("seek(), the last pass", x.seek(3L * LIMIT), 1);
        Check.due("seek(), the last pass: at()", x.at(), 0);
        Check.due("seek(), by the label", x.seek(3L * LIMIT + 1), 1);
        Check.due("seek(), by the label: at()", x.at(), 3);
        CounterLeaper y = Check.started("+b;A:+a;-aA;>A");
        for (long n : new long[] {1, 2, 3, 4, 5, MOST - 2, MOST - 1, MOST}) {
            Check.due("endless: seek(" + n + ")", y.seek(n), 1);
            Check.due("endless: seek(" + n + "): steps()", y.steps(), n);
            Check.due("endless: seek(" + n + "): at()", y.at(), 1 + (n - 1) % 3);
            Check.due("endless: seek(" + n + "): a", y.counter(0), (n - 1) % 3 == 1 ? 1 : 0);
        }
        // what was set, and how far it ran, does not count
        y.set(0, 99);
        y.seek(2);
        Check.due("seek() from where it began", y.counter(0), 1);
    }

    /** 14: "it would take more than 2000 such leaps and steps" */
    private static void seekTwoThousand() {
        CounterLeaper x = Check.started(FOREVER);
        Check.due("seek(), 2000 steps", x.seek(2000), 1);
        x.run(7);
        x.set(3, 3);
        Check.refused("seek(), 2001 steps", UNSUPPORTED, x, () -> x.seek(2001));
        Check.refused("seek(), the most", UNSUPPORTED, x, () -> x.seek(MOST));
        Check.refused("seek(), one more than the most", ARGUMENT, x, () -> x.seek(MOST + 1));
        Check.due("seek(), 1999 steps", x.seek(1999), 1);
        Check.due("seek(), it began as before", x.counter(3), 0);
        // -h, >, a leap by one pass, -a by the label, +a, >: a round is 6 of them, of 7 steps
        CounterLeaper y = Check.started("A:-hZ;>B;B:-aC;>B;C:+a;>A;Z:.", 1, 0, 0, 0, 0, 0, 0, LIMIT);
        Check.due("seek(), 333 rounds and two steps", y.seek(333 * 7 + 2), 1);
        Check.due("seek(), 333 rounds and two steps: h", y.counter(7), LIMIT - 334);
        Check.refused("seek(), and a step", UNSUPPORTED, y, () -> y.seek(333 * 7 + 3));
        Check.refused("seek(), and a leap", UNSUPPORTED, y, () -> y.seek(333 * 7 + 4));
        // it halts with the 2000th, or with one more
        Check.due("seek(), halted with the 2000th", Check.started("+h;A:-aZ;>B;B:>A;Z:.", 666).seek(MOST), 0);
        CounterLeaper z = Check.started("+h;+h;A:-aZ;>B;B:>A;Z:.", 666);
        Check.refused("seek(), halted with the 2001st", UNSUPPORTED, z, () -> z.seek(MOST));
    }

    /** 14: "How many leaps were made stays." */
    private static void seekLeavesTheLeaps() {
        CounterLeaper x = Check.started(MOVE, 5);
        x.seek(15);
        Check.due("seek() before a leap: leap(0)", x.leap(0), 0);
        Check.due("seek() before a leap: leap(2)", x.leap(2), NONE);
        x.seek(6);
        x.run(1);
        Check.due("run() behind seek(): leap(0)", x.leap(0), 1);
        Check.due("run() behind seek(): leap(2)", x.leap(2), 3);
        for (long n : new long[] {0, 3, 15, 16, MOST}) {
            x.seek(n);
            Check.due("seek(" + n + "): leap(0)", x.leap(0), 1);
            Check.due("seek(" + n + "): leap(1)", x.leap(1), 0);
            Check.due("seek(" + n + "): leap(2)", x.leap(2), 3);
            Check.due("seek(" + n + "): leap(3)", x.leap(3), 3);
        }
        x.seek(0);
        x.run(1);
        Check.due("run() again: leap(0)", x.leap(0), 2);
        Check.due("run() again: leap(2)", x.leap(2), 5);
    }

    /** 15: "The state; HALTED without a program." */
    private static void stateOfEach() {
        Check.due("state(), no program", new CounterLeaper().state(), 1);
        Check.due("state(), running", Check.started(FOREVER).state(), 0);
        Check.due("state(), halted", Check.started(".").state(), 1);
        Check.due("state(), stuck", Check.started("+a", LIMIT).state(), 2);
        Check.due("state(), endless", Check.started("A:+a;-aA;>A").state(), 3);
    }

    /** 16 and 17: "(as many as there are, when it is behind the last one)"; "those of leaps with them" */
    private static void atAndSteps() {
        CounterLeaper x = Check.started("+a;".repeat(24));
        for (int i = 0; i <= 24; i++) {
            Check.due("at()", x.at(), i);
            Check.due("steps()", x.steps(), i);
            x.plain(1);
        }
        Check.due("at(), behind the last", x.at(), 24);
        CounterLeaper y = Check.started("+c;" + MOVE, LIMIT);
        y.run(1);
        y.run(1);
        Check.due("steps(), a step and a leap", y.steps(), 1 + 3L * LIMIT);
        Check.due("at(), a leap ends at the head", y.at(), 1);
    }

    /** 18: "NONE when c is not 0 .. 7" */
    private static void counterWithin() {
        CounterLeaper x = new CounterLeaper();
        for (int c = 0; c < 8; c++) {
            x.set(c, c + 1);
        }
        for (int c = 0; c < 8; c++) {
            Check.due("counter(" + c + ")", x.counter(c), c + 1);
        }
        for (int c : new int[] {-1, 8, FAR[0], FAR[1], FAR[2], FAR[3]}) {
            Check.due("counter(" + c + ")", x.counter(c), NONE);
        }
    }

    /** 19: "there is no such loop or counter"; "the pass is not full" */
    private static void changeWithin() {
        CounterLeaper x = Check.started("A:+h;B:-aC;+b;+b;>B;C:>A;D:-cD;>D", 4);
        int[] want = {-4, 8, 0, 0, 0, 0, 0, 1};
        for (int c = 0; c < 8; c++) {
            Check.due("change(0, " + c + ")", x.change(0, c), want[c]);
        }
        int[] ofDrain = {-1, 2, 0, 0, 0, 0, 0, 0};
        for (int c = 0; c < 8; c++) {
            Check.due("change(1, " + c + ")", x.change(1, c), ofDrain[c]);
        }
        for (int k : new int[] {-1, 3, FAR[0], FAR[3]}) {
            Check.refused("change(" + k + ", 0)", INDEX, x, () -> x.change(k, 0));
        }
        for (int c : new int[] {-1, 8, FAR[0], FAR[3]}) {
            Check.refused("change(0, " + c + ")", INDEX, x, () -> x.change(0, c));
            Check.refused("change(2, " + c + "), nor full", INDEX, x, () -> x.change(2, c));
        }
        for (int c = 0; c < 8; c++) {
            int counter = c;
            Check.refused("change(2, " + c + "), not full", UNSUPPORTED, x, () -> x.change(2, counter));
        }
        x.set(2, 1);
        Check.due("change(2, 2), by its counters now", x.change(2, 2), -1);
        CounterLeaper y = Check.started("A:+h;B:-aC;+b;>B;C:-bD;+a;>C;D:>A", LIMIT);
        Check.due("change() of a, there and back", y.change(0, 0), 0);
        CounterLeaper z = Check.started("A:+h;B:-aC;+b;>B;C:>A", LIMIT);
        Check.due("change(), the least", z.change(0, 0), -LIMIT);
        Check.due("change(), the most", z.change(0, 1), LIMIT);
        Check.due("change() from behind all", halted().change(0, 0), -1);
    }

    private static CounterLeaper halted() {
        CounterLeaper x = Check.started(MOVE, 5);
        x.run(9);
        x.set(0, 1);
        Check.due("halted", x.state(), 1);
        return x;
    }

    /** 20: "since it was started"; "of the latest one"; "NONE for what there is not, and for another what" */
    private static void leapsSinceItWasStarted() {
        CounterLeaper x = Check.started(MOVE, 5);
        Check.due("leap(0), none", x.leap(0), 0);
        for (int what : new int[] {1, 2, 3, 4, -1, FAR[0], FAR[3]}) {
            Check.due("leap(" + what + "), none", x.leap(what), NONE);
        }
        x.run(1);
        Check.due("leap(0)", x.leap(0), 1);
        Check.due("leap(1), a head that is 0", x.leap(1), 0);
        Check.due("leap(2)", x.leap(2), 5);
        Check.due("leap(3)", x.leap(3), 3);
        for (int what : new int[] {4, -1, FAR[0], FAR[3]}) {
            Check.due("leap(" + what + ")", x.leap(what), NONE);
        }
        x.start();
        for (int what = 1; what < 4; what++) {
            Check.due("leap(" + what + "), started again", x.leap(what), NONE);
        }
        // many leaps in one run, each of another loop
        CounterLeaper y = Check.started("A:-aB;+b;>A;B:-bC;+c;>B;C:-cD;+a;>C;D:>A", 4);
        Check.due("run(700)", y.run(700), 0);
        Check.due("run(700), 3 leaps of 7 moves", y.leap(0), 300);
        Check.due("run(700), the latest: leap(1)", y.leap(1), 6);
        Check.due("run(700), the latest: leap(2)", y.leap(2), 4);
    }
}
