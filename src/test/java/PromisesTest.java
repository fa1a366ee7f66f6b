/** Each promise of the document: ordinary inputs, the edges that it names, and wrong inputs. */
public final class PromisesTest {
    private static final int NONE = CounterLeaper.NONE;
    private static final int LIMIT = 1000000;
    private static final long MOST = 1000000000000000L;

    /** b for every a; a drain, and so a loop, too. */
    private static final String MOVE = "A:-aB;+b;>A;B:.";
    /** c is more by b for every a; d is drained back to b. */
    private static final String TIMES = "A:-aE;B:-bC;+c;+d;>B;C:-dD;+b;>C;D:>A;E:.";
    private static final String ENDLESS = "A:+a;-aB;>A;B:.";
    /** Endless while there is an h; then what is left of the steps can be used by a drain of c. */
    private static final String LATE = "A:-hC;+h;>A;C:-cD;+d;>C;D:.";

    private PromisesTest() {
    }

    public static void main(String[] args) {
        newObject();
        type();
        wipe();
        compile();
        faults();
        faultsOfLabels();
        size();
        instruction();
        loops();
        drains();
        set();
        start();
        leaps();
        run();
        plain();
        seek();
        seekByLeaps();
        seekTooFar();
        state();
        stateLate();
        place();
        counters();
        change();
        leap();
        leapEdges();
        leapLate();
        Check.end();
    }

    private static void newObject() {
        CounterLeaper x = new CounterLeaper();
        Check.due("new: wipe()", x.wipe(), 0);
        Check.due("new: size()", x.size(), 0);
        Check.due("new: loops()", x.loops(), 0);
        Check.due("new: state()", x.state(), 1);
        Check.due("new: at()", x.at(), 0);
        Check.due("new: steps()", x.steps(), 0);
        for (int c = 0; c < 8; c++) {
            Check.due("new: counter " + c, x.counter(c), 0);
        }
        Check.due("new: leap(0)", x.leap(0), 0);
        Check.due("new: leap(1)", x.leap(1), NONE);
        Check.type(x, MOVE);
        x.set(0, 5);
        x.compile();
        x.run(1);
        Check.due("new: leaps are on", x.steps(), 15);
    }

    private static void type() {
        CounterLeaper x = new CounterLeaper();
        Check.dueThrow("type, n = 0", IllegalArgumentException.class, () -> x.type('+', 0));
        Check.dueThrow("type, n = 9", IllegalArgumentException.class, () -> x.type(0x2020202020202020L, 9));
        Check.dueThrow("type, n = -1", IllegalArgumentException.class, () -> x.type('+', -1));
        Check.dueThrow("type, code 31", IllegalArgumentException.class, () -> x.type(31, 1));
        Check.dueThrow("type, code 127", IllegalArgumentException.class, () -> x.type(127, 1));
        Check.dueThrow("type, code 255", IllegalArgumentException.class, () -> x.type(-1L, 1));
        Check.dueThrow("type, code 0 before '+'", IllegalArgumentException.class, () -> x.type('+', 2));
        Check.dueThrow("type, a bad highest byte", IllegalArgumentException.class,
                () -> x.type(0x8020202020202020L, 8));
        Check.due("type, codes 32 and 126", x.type(0x207E, 2), 2);
        Check.due("type, higher bytes do not count", x.type(0x8000000000000020L, 1), 3);
        x.wipe();
        Check.due("type, the highest first", x.type('+' << 8 | 'a', 2), 2);
        Check.due("type, the highest first: compile()", x.compile(), 0);
        for (int n = 2; n < 112; n += 8) {
            x.type(0x2020202020202020L, 8);
        }
        Check.due("type, 1 more", x.type(' ', 1), 115);
        Check.dueThrow("type, 123 in all", UnsupportedOperationException.class,
                () -> x.type(0x2020202020202020L, 8));
        Check.dueThrow("type, 121 in all", UnsupportedOperationException.class,
                () -> x.type(0x202020202020L, 6));
        Check.dueThrow("type, the first that is named", IllegalArgumentException.class,
                () -> x.type(0x202020202001L, 6));
        Check.due("type, 120 in all", x.type(0x2020202020L, 5), 120);
        Check.dueThrow("type, full", UnsupportedOperationException.class, () -> x.type(' ', 1));
        Check.due("type, what threw changed nothing", x.wipe(), 120);
    }

    private static void wipe() {
        CounterLeaper x = Check.compiled("+a;.");
        Check.due("wipe()", x.wipe(), 4);
        Check.due("wipe() again", x.wipe(), 0);
        Check.due("wipe(), the program stays", x.size(), 2);
        Check.due("wipe(), the text is empty", x.compile(), 1);
    }

    private static void compile() {
        CounterLeaper x = Check.started("+a;+a;+a", 7);
        x.plain(2);
        Check.due("compile() again", x.compile(), 0);
        Check.due("compile() starts: at()", x.at(), 0);
        Check.due("compile() starts: steps()", x.steps(), 0);
        Check.due("compile() leaves the counters", x.counter(0), 9);
        x.plain(1);
        x.seek(0);
        Check.due("compile() begins with the counters", x.counter(0), 9);
        x.plain(1);
        Check.type(x, "?");
        Check.due("compile(), a fault", x.compile(), 9);
        Check.due("compile(), a fault changes nothing: at()", x.at(), 1);
        Check.due("compile(), a fault changes nothing: steps()", x.steps(), 1);
        Check.due("compile(), a fault changes nothing: size()", x.size(), 3);
        x.wipe();
        Check.type(x, "A:-bA;>Z");
        Check.due("compile(), a label that stands nowhere", x.compile(), 8);
        Check.due("compile(), nor does this fault change", x.instruction(0, 0), 0);
        Check.due("compile(), the text stays", x.wipe(), 8);
    }

    private static void fault(String text, int want) {
        Check.due("compile() of '" + text + "'", Check.typed(text).compile(), want);
    }

    private static void faults() {
        fault("", 1);
        fault("   ", 4);
        fault(";", 1);
        fault("+", 2);
        fault("+ ", 3);
        fault("+i", 2);
        fault("+A", 2);
        fault("+a+", 3);
        fault("+a.", 3);
        fault("+h", 0);
        fault(" + h ; ", 0);
        fault("+a;", 0);
        fault("+a;;", 4);
        fault("-a", 3);
        fault("-a;", 3);
        fault("-aa", 3);
        fault("-A", 2);
        fault(">", 2);
        fault(">a", 2);
        fault(".a", 2);
        fault(". ;", 0);
        fault("a", 1);
        fault("~", 1);
        fault("A", 2);
        fault("A.", 2);
        fault("A;", 2);
        fault("A:", 3);
        fault("A:;", 3);
        fault(".;A: ", 6);
        fault("A : B : - a C ; C : > B", 0);
        fault("A::.", 3);
    }

    private static void faultsOfLabels() {
        fault("A:A:.", 3);
        fault("A:B:A", 5);
        fault("A:.;A.", 5);
        fault("A:.;A?", 5);
        fault("A:.;A", 5);
        fault("AA:.", 2);
        fault(">Z", 2);
        fault(">A;-bB;A:.", 6);
        fault(">B;-bA", 2);
        fault("A:>A;-h  Z;>Y", 10);
        fault(">Z;+", 5);
        fault(">Z;A:.;A:.", 8);
        fault("Z:>Z", 0);
        String full = ".;".repeat(24);
        fault(full, 0);
        fault(full.substring(0, 47), 0);
        fault(full + "  ", 0);
        fault(full + " .", 50);
        fault(full + " A:.", 50);
        fault(full + "?", 49);
        fault(full + ";", 49);
        fault(full.substring(0, 46) + "A:B: . ; C", 56);
        fault(full.substring(0, 46) + "A:", 49);
    }

    private static void size() {
        Check.due("size()", Check.compiled(MOVE).size(), 4);
        Check.due("size(), one", Check.compiled(".").size(), 1);
        Check.due("size(), 24", Check.compiled(".;".repeat(24)).size(), 24);
        Check.due("size(), no program", Check.typed(MOVE).size(), 0);
    }

    private static void instructionDue(CounterLeaper x, int i, int kind, int counter, int target) {
        Check.due("instruction " + i + ", its kind", x.instruction(i, 0), kind);
        Check.due("instruction " + i + ", its counter", x.instruction(i, 1), counter);
        Check.due("instruction " + i + ", its label", x.instruction(i, 2), target);
        Check.due("instruction " + i + ", what = 3", x.instruction(i, 3), NONE);
        Check.due("instruction " + i + ", what = -1", x.instruction(i, -1), NONE);
    }

    private static void instruction() {
        CounterLeaper x = new CounterLeaper();
        instructionDue(x, 0, NONE, NONE, NONE);
        Check.type(x, "B:-hZ;+a;>B;Y:Z:.");
        x.compile();
        instructionDue(x, 0, 1, 7, 3);
        instructionDue(x, 1, 0, 0, NONE);
        instructionDue(x, 2, 2, NONE, 0);
        instructionDue(x, 3, 3, NONE, NONE);
        instructionDue(x, 4, NONE, NONE, NONE);
        instructionDue(x, -1, NONE, NONE, NONE);
        instructionDue(x, Integer.MAX_VALUE, NONE, NONE, NONE);
        x.wipe();
        Check.type(x, "+c");
        x.compile();
        instructionDue(x, 0, 0, 2, NONE);
        instructionDue(x, 1, NONE, NONE, NONE);
    }

    /** The loops are told as head, end, drains; head, end, drains; .. */
    private static void loopsDue(String text, int... want) {
        CounterLeaper x = Check.compiled(text);
        Check.due("loops() of " + text, x.loops(), want.length / 3);
        for (int i = 0; i < want.length; i++) {
            Check.due("loop(" + i / 3 + ", " + i % 3 + ") of " + text, x.loop(i / 3, i % 3), want[i]);
        }
        for (int what = -1; what < 4; what++) {
            Check.due("loop(-1, ..) of " + text, x.loop(-1, what), NONE);
            Check.due("a loop too many of " + text, x.loop(want.length / 3, what), NONE);
        }
        Check.due("loop(0, 3) of " + text, x.loop(0, 3), NONE);
        Check.due("loop(0, -1) of " + text, x.loop(0, -1), NONE);
    }

    private static void loops() {
        Check.due("loops(), no program", new CounterLeaper().loops(), 0);
        Check.due("loop(), no program", new CounterLeaper().loop(0, 0), NONE);
        loopsDue(".");
        loopsDue("A:>A");
        loopsDue("A:+a;>A", 0, 1, 0);
        loopsDue("A:+a;B:>A", 0, 1, 0);
        loopsDue("A:+a;B:>B");
        loopsDue("A:+a;.;>A");
        loopsDue("A:+a;B:+a;>B", 1, 2, 0);
        loopsDue("A:+a;B:+a;>B;>A", 1, 2, 0);
        loopsDue("A:-aA;>A", 0, 1, 0);
        loopsDue("A:+a;>A;B:+b;>B", 0, 1, 0, 2, 3, 0);
        loopsDue(MOVE, 0, 2, 0);
        loopsDue(TIMES, 0, 8, 2, 1, 4, 0, 5, 7, 0);
        loopsDue("A:+a;>A;B:+a;>B;C:+a;>C;D:+a;>D;E:+a;>E;F:+a;>F;G:+a;>G;H:+a;>H;I:+a;>I;J:+a;>J;"
                + "K:+a;>K;L:+a;>L", 0, 1, 0, 2, 3, 0, 4, 5, 0, 6, 7, 0, 8, 9, 0, 10, 11, 0, 12, 13, 0,
                14, 15, 0, 16, 17, 0, 18, 19, 0, 20, 21, 0, 22, 23, 0);
    }

    private static void drains() {
        loopsDue("A:+a;B:-bC;>B;C:>A", 0, 3, 1, 1, 2, 0);
        // no drain, so no loop round it: a + of its own counter, a wrong label, a - in it
        loopsDue("A:+a;B:-bC;+b;>B;C:>A", 1, 3, 0);
        loopsDue("A:+a;B:-bD;>B;C:>A;D:.", 1, 2, 0);
        loopsDue("A:+a;B:-bA;>B;C:>A", 1, 2, 0);
        loopsDue("A:+a;B:-bC;-cC;>B;C:>A", 1, 3, 0);
        // a drain at the head is not taken whole
        loopsDue("A:-aB;+b;>A;B:+c;>A", 0, 2, 0);
        // behind the head, a - of a drain's form is part of it and not of the loop
        loopsDue("A:-aE;B:-bC;+c;>B;C:-cD;+b;+b;>C;D:-eE;>A;E:.", 0, 9, 2, 1, 3, 0, 4, 7, 0);
        // a drain that goes to the end of the loop, one that is all of it
        loopsDue("A:-aB;>A;B:>A", 0, 1, 0);
    }

    private static void set() {
        CounterLeaper x = new CounterLeaper();
        Check.dueThrow("set, c = -1", IllegalArgumentException.class, () -> x.set(-1, 0));
        Check.dueThrow("set, c = 8", IllegalArgumentException.class, () -> x.set(8, 0));
        Check.dueThrow("set, v = -1", IllegalArgumentException.class, () -> x.set(0, -1));
        Check.dueThrow("set, v too much", IllegalArgumentException.class, () -> x.set(0, LIMIT + 1));
        x.set(0, LIMIT);
        x.set(7, 1);
        Check.due("set, LIMIT", x.counter(0), LIMIT);
        Check.due("set, h", x.counter(7), 1);
        x.set(0, 0);
        Check.due("set, 0", x.counter(0), 0);
        Check.type(x, "+a;+a;+a");
        x.compile();
        x.plain(1);
        x.set(0, 50);
        Check.due("set, not where it is", x.at(), 1);
        Check.due("set, nor its steps", x.steps(), 1);
        x.plain(1);
        Check.due("set, it counts on from there", x.counter(0), 51);
        x.seek(2);
        Check.due("set, not with what it began", x.counter(0), 2);
    }

    private static void start() {
        CounterLeaper empty = Check.typed(MOVE);
        Check.dueThrow("start(), no program", IllegalStateException.class, empty::start);
        CounterLeaper x = Check.started(MOVE, 5);
        x.run(2);
        x.set(0, 3);
        x.start();
        Check.due("start(): at()", x.at(), 0);
        Check.due("start(): steps()", x.steps(), 0);
        Check.due("start(): leap(0)", x.leap(0), 0);
        Check.due("start(): leap(1)", x.leap(1), NONE);
        Check.due("start(): a", x.counter(0), 3);
        Check.due("start(): b", x.counter(1), 5);
        x.run(10);
        x.seek(3);
        Check.due("start(), it began with a", x.counter(0), 2);
        Check.due("start(), it began with b", x.counter(1), 6);
    }

    private static void leaps() {
        CounterLeaper x = Check.started(MOVE, 5);
        x.leaps(false);
        x.run(1);
        Check.due("leaps(false): a step", x.steps(), 1);
        Check.due("leaps(false): no leap", x.leap(0), 0);
        x.start();
        x.compile();
        x.run(3);
        Check.due("leaps(false) holds", x.steps(), 3);
        x.leaps(true);
        x.run(1);
        Check.due("leaps(true): a leap", x.steps(), 12);
        Check.due("leaps(true): one leap", x.leap(0), 1);
        CounterLeaper y = Check.started(ENDLESS);
        y.leaps(false);
        Check.due("leaps(false): endless all the same", y.state(), 3);
        Check.due("leaps(false): run() stops when endless", y.run(7), 3);
        Check.due("leaps(false): and makes no step", y.steps(), 0);
    }

    private static void run() {
        CounterLeaper empty = new CounterLeaper();
        Check.dueThrow("run(), no program", IllegalStateException.class, () -> empty.run(1001));
        CounterLeaper x = Check.started(TIMES, 3, 4);
        Check.dueThrow("run(-1)", IllegalArgumentException.class, () -> x.run(-1));
        Check.dueThrow("run(1001)", IllegalArgumentException.class, () -> x.run(1001));
        Check.due("run(0)", x.run(0), 0);
        Check.due("run(0), no move", x.steps(), 0);
        Check.due("run(1), a leap", x.run(1), 0);
        Check.due("run(1), a leap: steps()", x.steps(), 3 * (1 + 17 + 13 + 1));
        Check.due("run(1), a leap: c", x.counter(2), 12);
        Check.due("run(1000), it halts", x.run(1000), 1);
        Check.due("run(1000), it halts: at()", x.at(), 9);
        Check.due("run(1), halted", x.run(1), 1);
        Check.due("run(1), halted: steps()", x.steps(), 97);
        CounterLeaper y = Check.started("+a;+a;+a", LIMIT - 1);
        Check.due("run(), stuck", y.run(5), 2);
        Check.due("run(), stuck: steps()", y.steps(), 1);
        CounterLeaper z = Check.started("A:>A");
        Check.due("run(1000), steps", z.run(1000), 0);
        Check.due("run(1000), steps: steps()", z.steps(), 1000);
        // it comes to an endless loop in the middle of a run
        CounterLeaper w = Check.started("+c;+c;" + ENDLESS);
        Check.due("run(), endless", w.run(9), 3);
        Check.due("run(), endless: steps()", w.steps(), 2);
    }

    private static void plain() {
        CounterLeaper empty = new CounterLeaper();
        Check.dueThrow("plain(), no program", IllegalStateException.class, () -> empty.plain(-1));
        CounterLeaper x = Check.started(MOVE, 2);
        Check.dueThrow("plain(-1)", IllegalArgumentException.class, () -> x.plain(-1));
        Check.dueThrow("plain(1001)", IllegalArgumentException.class, () -> x.plain(1001));
        Check.due("plain(0)", x.plain(0), 0);
        Check.due("plain(2)", x.plain(2), 2);
        Check.due("plain(2): at()", x.at(), 2);
        Check.due("plain(2): a", x.counter(0), 1);
        Check.due("plain(2): b", x.counter(1), 1);
        Check.due("plain(1000), it halts", x.plain(1000), 5);
        Check.due("plain(1000), it halts: at()", x.at(), 3);
        Check.due("plain(1), halted", x.plain(1), 0);
        Check.due("plain(), no leaps", x.leap(0), 0);
        CounterLeaper y = Check.started(ENDLESS);
        Check.due("plain(1000), endless", y.plain(1000), 1000);
        Check.due("plain(1000), endless: at()", y.at(), 1);
        CounterLeaper z = Check.started("+a;+a;+a", LIMIT - 2);
        Check.due("plain(3), stuck", z.plain(3), 2);
        Check.due("plain(3), stuck: state()", z.state(), 2);
        z.set(0, 0);
        Check.due("plain(3), not stuck any more", z.plain(3), 1);
        Check.due("plain(3), behind the last", z.at(), 3);
    }

    private static void seek() {
        CounterLeaper empty = new CounterLeaper();
        Check.dueThrow("seek(), no program", IllegalStateException.class, () -> empty.seek(-1));
        CounterLeaper x = Check.started(MOVE, 7, 1);
        Check.dueThrow("seek(-1)", IllegalArgumentException.class, () -> x.seek(-1));
        Check.dueThrow("seek(), too many", IllegalArgumentException.class, () -> x.seek(MOST + 1));
        x.run(1);
        Check.due("seek(10)", x.seek(10), 1);
        Check.due("seek(10): at()", x.at(), 1);
        Check.due("seek(10): steps()", x.steps(), 10);
        Check.due("seek(10): a", x.counter(0), 3);
        Check.due("seek(10): b", x.counter(1), 4);
        Check.due("seek(10), how many leaps stays", x.leap(0), 1);
        Check.due("seek(10), the latest leap stays", x.leap(2), 7);
        Check.due("seek(22), just halted", x.seek(22), 1);
        Check.due("seek(22): state()", x.state(), 1);
        Check.due("seek(23), halted before", x.seek(23), 0);
        Check.due("seek(23): steps()", x.steps(), 22);
        Check.due("seek(), as far as may be", x.seek(MOST), 0);
        Check.due("seek(0)", x.seek(0), 1);
        Check.due("seek(0): a", x.counter(0), 7);
        CounterLeaper y = Check.started("A:+a;>A", LIMIT - 5);
        Check.due("seek(10), just stuck", y.seek(10), 1);
        Check.due("seek(10): state()", y.state(), 2);
        Check.due("seek(11), stuck before", y.seek(11), 2);
        Check.due("seek(11): steps()", y.steps(), 10);
        CounterLeaper z = Check.started(".");
        Check.due("seek(0), halted from the beginning", z.seek(0), 1);
        Check.due("seek(1), halted from the beginning", z.seek(1), 0);
    }

    private static void seekByLeaps() {
        CounterLeaper x = Check.started(TIMES, 1000, 1000);
        x.leaps(false);
        Check.due("seek(), by leaps when they are off", x.seek(7004000), 1);
        Check.due("seek(): c", x.counter(2), LIMIT);
        Check.due("seek(), no leaps of run()", x.leap(0), 0);
        Check.due("seek(), into a pass", x.seek(7004 * 500 + 1 + 4 * 10 + 2), 1);
        Check.due("seek(), into a pass: at()", x.at(), 3);
        Check.due("seek(), into a pass: c", x.counter(2), 500011);
        Check.due("seek(), into a pass: d", x.counter(3), 10);
        CounterLeaper y = Check.started(ENDLESS);
        Check.due("seek(), endless", y.seek(MOST), 1);
        Check.due("seek(), endless: at()", y.at(), 1);
        Check.due("seek(), endless: steps()", y.steps(), MOST);
        Check.due("seek(), endless: a", y.counter(0), 1);
        // a pass that changes the counter of a drain is leapt one by one
        CounterLeaper z = Check.started("A:+a;B:-aC;+b;+b;>B;C:-bD;+a;>C;D:>A", 1);
        Check.due("seek(), one pass a leap", z.seek(100), 1);
        Check.due("seek(), one pass a leap: a", z.counter(0), 5);
        Check.due("seek(), one pass a leap: b", z.counter(1), 10);
    }

    private static void seekTooFar() {
        CounterLeaper x = Check.started("A:>A");
        Check.due("seek(2000), 2000 steps", x.seek(2000), 1);
        x.set(0, 77);
        Check.dueThrow("seek(2001), 2001 steps", UnsupportedOperationException.class, () -> x.seek(2001));
        Check.due("seek(2001) changes nothing: steps()", x.steps(), 2000);
        Check.due("seek(2001) changes nothing: a", x.counter(0), 77);
        // the > behind the - keeps the rounds from being a loop: each is 13 steps, 1 leap and 7 steps
        CounterLeaper y = Check.started("A:-hZ;>X;X:B:-aC;>B;C:+a;+a;+a;>A;Z:.", 3, 0, 0, 0, 0, 0, 0, LIMIT);
        Check.due("seek(), 250 leaps and 1750 steps", y.seek(250 * 13), 1);
        Check.due("seek(), 250 leaps and 1750 steps: h", y.counter(7), LIMIT - 250);
        Check.dueThrow("seek(), one more", UnsupportedOperationException.class, () -> y.seek(250 * 13 + 1));
        Check.due("seek(), one more: h", y.counter(7), LIMIT - 250);
        Check.due("seek(), one more: at()", y.at(), 0);
        Check.due("seek(), one more: steps()", y.steps(), 250 * 13);
        // 666 rounds of 3 steps and one to the point, with no loop
        CounterLeaper z = Check.started("+h;A:-aZ;>B;B:>A;Z:.", 666);
        Check.due("seek(), halted behind 2000", z.seek(5000), 0);
        Check.due("seek(), halted behind 2000: steps()", z.steps(), 2000);
        CounterLeaper w = Check.started("+h;+h;A:-aZ;>B;B:>A;Z:.", 666);
        Check.dueThrow("seek(), halted behind 2001", UnsupportedOperationException.class, () -> w.seek(5000));
    }

    private static void state() {
        Check.due("state(), at a point", Check.started(".").state(), 1);
        CounterLeaper x = Check.started("+a", LIMIT);
        Check.due("state(), stuck at +", x.state(), 2);
        x.set(0, LIMIT - 1);
        Check.due("state(), not stuck any more", x.state(), 0);
        x.plain(1);
        Check.due("state(), behind the last", x.state(), 1);
        Check.due("state(), - of 0", Check.started("A:-aA").state(), 0);
        Check.due("state(), - of LIMIT", Check.started("A:-aA", LIMIT).state(), 0);
        Check.due("state(), > to itself is no loop", Check.started("A:>A").state(), 0);
        CounterLeaper y = Check.started(ENDLESS);
        Check.due("state(), endless", y.state(), 3);
        y.plain(1);
        Check.due("state(), not at the head", y.state(), 0);
        y.plain(2);
        Check.due("state(), at the head again", y.state(), 3);
        y.set(0, LIMIT);
        Check.due("state(), stuck before endless", y.state(), 2);
        // a loop whose - goes by its label has no full pass, though it comes back to the head
        Check.due("state(), by a label", Check.started("A:-aB;B:+b;-bA;>A").state(), 0);
        // a drain there and back changes nothing
        String there = "A:+e;B:-aC;+b;>B;C:-bD;+a;>C;D:-eE;>A;E:.";
        Check.due("state(), endless with drains", Check.started(there, 5).state(), 3);
        Check.due("state(), b is not 0 behind it", Check.started(there, 5, 1).state(), 0);
        Check.due("state(), the drain gets stuck", Check.started(there, 500001, 500000).state(), 0);
        Check.due("state(), empty drains", Check.started(there).state(), 3);
    }

    /** A machine with LATE that has left so many steps to make, at the head of the endless loop. */
    private static CounterLeaper late(long left, int c) {
        CounterLeaper x = Check.started(LATE, 0, 0, c, 0, 0, 0, 0, 1);
        Check.due("seek(), late", x.seek(MOST - left), 1);
        return x;
    }

    private static void stateLate() {
        CounterLeaper x = late(4, 9);
        Check.due("state(), 4 steps left, at the head", x.at(), 0);
        Check.due("state(), 4 steps left", x.state(), 3);
        x.plain(3);
        Check.due("state(), 1 step left, at the head", x.at(), 0);
        Check.due("state(), 1 step left: no pass is full", x.state(), 0);
        Check.due("run(), 1 step left", x.run(5), 2);
        Check.due("run(), 1 step left: steps()", x.steps(), MOST);
        Check.due("run(), no step left: at()", x.at(), 1);
        CounterLeaper y = Check.started("+a;" + ENDLESS);
        Check.due("state(), just 3 steps left", y.seek(MOST - 3), 1);
        Check.due("state(), just 3 steps left: endless", y.state(), 3);
        y.plain(3);
        Check.due("state(), no steps left: at()", y.at(), 1);
        Check.due("state(), no steps left", y.state(), 2);
        Check.due("plain(), no steps left", y.plain(1), 0);
        // halted at a point also when no step is left
        CounterLeaper z = Check.started("A:-hC;+h;>A;C:.", 0, 0, 0, 0, 0, 0, 0, 1);
        z.seek(MOST - 1);
        z.set(7, 0);
        z.plain(1);
        Check.due("state(), halted with no steps left", z.state(), 1);
        Check.due("state(), halted with no steps left: steps()", z.steps(), MOST);
    }

    private static void place() {
        CounterLeaper x = Check.started("A:-aB;>A;B:+b", 1);
        int[] want = {0, 1, 0, 2, 3};
        for (int i = 0; i < want.length; i++) {
            Check.due("at(), step " + i, x.at(), want[i]);
            Check.due("steps(), step " + i, x.steps(), i);
            x.plain(1);
        }
        Check.due("at(), behind the last", x.at(), 3);
        Check.due("steps(), halted", x.steps(), 4);
    }

    private static void counters() {
        CounterLeaper x = Check.started("+h;-aA;-aA;A:.", 1);
        x.plain(3);
        Check.due("counter(7)", x.counter(7), 1);
        Check.due("counter(0), it stays 0", x.counter(0), 0);
        Check.due("counter(8)", x.counter(8), NONE);
        Check.due("counter(-1)", x.counter(-1), NONE);
        Check.due("counter(0), by the label", x.at(), 3);
    }

    private static void change() {
        CounterLeaper empty = new CounterLeaper();
        Check.dueThrow("change(), no program", IndexOutOfBoundsException.class, () -> empty.change(0, 0));
        CounterLeaper x = Check.started(TIMES, 2, 5);
        x.plain(3);
        Check.dueThrow("change(-1, 0)", IndexOutOfBoundsException.class, () -> x.change(-1, 0));
        Check.dueThrow("change(3, 0)", IndexOutOfBoundsException.class, () -> x.change(3, 0));
        Check.dueThrow("change(0, -1)", IndexOutOfBoundsException.class, () -> x.change(0, -1));
        Check.dueThrow("change(0, 8)", IndexOutOfBoundsException.class, () -> x.change(0, 8));
        // now a = 1, b = 4, c = 1, d = 0
        int[][] want = {{-1, 0, 4, 0, 0, 0, 0, 0}, {0, -1, 1, 1, 0, 0, 0, 0}};
        for (int k = 0; k < 2; k++) {
            for (int c = 0; c < 8; c++) {
                Check.due("change(" + k + ", " + c + ")", x.change(k, c), want[k][c]);
            }
        }
        Check.dueThrow("change(2, 0), d is 0", UnsupportedOperationException.class, () -> x.change(2, 0));
        Check.dueThrow("change(2, 8), the first that is named", IndexOutOfBoundsException.class,
                () -> x.change(2, 8));
        x.set(2, LIMIT - 4);
        Check.due("change(0, 2), up to LIMIT", x.change(0, 2), 4);
        x.set(2, LIMIT - 3);
        Check.dueThrow("change(0, 2), stuck", UnsupportedOperationException.class, () -> x.change(0, 2));
        Check.due("change(1, 2), one round", x.change(1, 2), 1);
        Check.due("change(), it stays where it is", x.at(), 3);
        Check.due("change(), and so do its counters", x.counter(2), LIMIT - 3);
        // as with no steps made, also when none is left
        CounterLeaper y = late(0, 9);
        Check.due("change(), no step left", y.change(1, 3), 1);
        Check.due("change(), no step left: stuck", y.state(), 2);
    }

    private static void leapDue(String call, CounterLeaper x, long count, long head, long passes, long steps) {
        Check.due(call + ": leap(0)", x.leap(0), count);
        Check.due(call + ": leap(1)", x.leap(1), head);
        Check.due(call + ": leap(2)", x.leap(2), passes);
        Check.due(call + ": leap(3)", x.leap(3), steps);
        Check.due(call + ": leap(4)", x.leap(4), NONE);
        Check.due(call + ": leap(-1)", x.leap(-1), NONE);
    }

    private static void leap() {
        CounterLeaper x = Check.started("+a;" + TIMES, 3, 4);
        leapDue("no leap yet", x, 0, NONE, NONE, NONE);
        x.run(1);
        leapDue("a step", x, 0, NONE, NONE, NONE);
        x.run(1);
        leapDue("a leap", x, 1, 1, 4, 32);
        x.run(9);
        leapDue("no leap behind it", x, 1, 1, 4, 32);
        x.set(0, 1);
        x.start();
        leapDue("started", x, 0, NONE, NONE, NONE);
        x.plain(2);
        x.run(1);
        leapDue("a leap of the drain in it", x, 1, 2, 4, 4);
        x.run(2);
        leapDue("a leap of the next drain", x, 2, 6, 4, 3);
        x.run(3);
        leapDue("a leap of the loop round them", x, 3, 1, 1, 32);
        x.plain(9);
        x.seek(40);
        leapDue("plain() and seek() leave it", x, 3, 1, 1, 32);
        Check.type(x, "?");
        x.compile();
        leapDue("a fault leaves it", x, 3, 1, 1, 32);
    }

    private static void leapEdges() {
        // up and down within a pass: 3 up, 1 down; 2 down, 1 up
        CounterLeaper x = Check.started("A:+a;+a;+a;-aB;>A;B:.", LIMIT - 8);
        x.run(1);
        leapDue("up by 2, with 3 in it", x, 1, 0, 3, 5);
        Check.due("up by 2, with 3 in it: a", x.counter(0), LIMIT - 2);
        Check.due("up by 2: stuck in the next", x.run(9), 2);
        Check.due("up by 2: stuck in the next: at()", x.at(), 2);
        CounterLeaper y = Check.started("A:-aB;-aB;+a;>A;B:.", 5);
        y.run(1);
        leapDue("down by 1, with 2 in it", y, 1, 0, 4, 4);
        Check.due("down by 1, with 2 in it: a", y.counter(0), 1);
        // the least of several counters
        CounterLeaper z = Check.started("A:-aC;-bC;+c;>A;C:.", 9, 7, LIMIT - 6);
        z.run(1);
        leapDue("the least of three", z, 1, 0, 6, 4);
        // the counter of a drain changes: one pass
        CounterLeaper w = Check.started("A:-aE;+b;B:-bC;+c;>B;C:>A;E:.", 5, 0, 0);
        w.run(1);
        leapDue("b is 0 before and behind", w, 1, 0, 5, 7);
        Check.due("b is 0 before and behind: c", w.counter(2), 5);
        CounterLeaper v = Check.started("A:-aE;+b;B:-bC;+c;>B;C:>A;E:.", 5, 2, 0);
        v.run(1);
        leapDue("b is not 0 before", v, 1, 0, 1, 13);
        v.run(1);
        leapDue("b is 0 then", v, 2, 0, 4, 7);
        // to LIMIT by a drain
        CounterLeaper u = Check.started(TIMES, 1000, 1000, 1);
        u.run(1);
        leapDue("c would be more than LIMIT", u, 1, 0, 999, 7004);
        Check.due("c would be more than LIMIT: stuck", u.run(1000), 2);
        Check.due("c would be more than LIMIT: c", u.counter(2), LIMIT);
    }

    private static void leapLate() {
        CounterLeaper x = late(100, 1000);
        Check.due("late: at the head", x.at(), 0);
        x.set(7, 0);
        x.run(2);
        leapDue("99 steps left", x, 1, 3, 33, 3);
        Check.due("99 steps left: c", x.counter(2), 967);
        Check.due("99 steps left: steps()", x.steps(), MOST);
        Check.due("99 steps left: stuck", x.state(), 2);
        CounterLeaper y = Check.started("+g;" + LATE, 0, 0, 1000, 0, 0, 0, 0, 1);
        y.seek(MOST - 99);
        y.set(7, 0);
        y.run(2);
        leapDue("98 steps left", y, 1, 4, 32, 3);
        Check.due("then 2 steps", y.run(1000), 2);
        Check.due("then 2 steps: leap(0)", y.leap(0), 1);
        Check.due("then 2 steps: at()", y.at(), 6);
        Check.due("then 2 steps: steps()", y.steps(), MOST);
        // 1 pass, of a loop whose drain counts, that has just the steps for it, and not
        String text = "A:-hB;+h;>A;B:+a;C:-aD;+b;>C;D:>B";
        for (int less = 0; less < 2; less++) {
            CounterLeaper z = Check.started(text, 9, 0, 0, 0, 0, 0, 0, 1);
            z.seek(MOST - MOST % 3 - 33);
            z.set(7, 0);
            z.set(0, less == 0 ? 9 : 10);
            z.run(1);
            Check.due("late, with drains: at()", z.at(), 3);
            z.run(1);
            Check.due("late, with drains: leap(0)", z.leap(0), less == 0 ? 1 : 0);
        }
    }
}
