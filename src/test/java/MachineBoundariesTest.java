/** The sentences under "Terms" that say what steps, states, loops and leaps are, at their edges. */
public final class MachineBoundariesTest {
    private static final int LIMIT = 1000000;
    private static final long MOST = Check.MOST;

    /** c is more by b for every a; d is drained back to b. */
    private static final String TIMES = "A:-aE;B:-bC;+c;+d;>B;C:-dD;+b;>C;D:>A;E:.";
    private static final String UP_AND_DOWN = "A:+a;-aB;>A;B:.";
    /** a to b and back, with an e that is never left. */
    private static final String THERE_AND_BACK = "A:+e;B:-aC;+b;>B;C:-bD;+a;>C;D:-eE;>A;E:.";

    private MachineBoundariesTest() {
    }

    public static void main(String[] args) {
        plusUpToLimit();
        minusDownToZero();
        goes();
        haltedAtPoint();
        haltedBehindTheLast();
        stuckAtLimit();
        stuckWhenAllStepsWereMade();
        endlessAtTheHead();
        endlessWithStepsForAPass();
        whatTheMachineIsNow();
        noStepsWhenHaltedOrStuck();
        drainsOfNoneOneOrMore();
        notDrains();
        loopsOfOneOrMore();
        minusAtTheHead();
        fullWithoutGoingByALabel();
        fullWithoutGettingStuck();
        fullWithNoMoreSteps();
        noLeapWithoutChanges();
        onePassWhenADrainsCounterChanges();
        asManyPassesAsCanBeMade();
        asManyPassesAsThereAreStepsFor();
        movesAreLeapsWhenOn();
        allStepsByRunAndSeek();
        Check.end();
    }

    private static void where(String told, CounterLeaper x, int state, int at, long steps, int a) {
        Check.due(told + ": state()", x.state(), state);
        Check.due(told + ": at()", x.at(), at);
        Check.due(told + ": steps()", x.steps(), steps);
        Check.due(told + ": counter(0)", x.counter(0), a);
    }

    private static void latest(String told, CounterLeaper x, long count, long head, long passes, long steps) {
        Check.due(told + ": leap(0)", x.leap(0), count);
        Check.due(told + ": leap(1)", x.leap(1), head);
        Check.due(told + ": leap(2)", x.leap(2), passes);
        Check.due(told + ": leap(3)", x.leap(3), steps);
    }

    /** "each has a VALUE, 0 .. 1000000"; "+ makes the counter 1 more, and goes on" */
    private static void plusUpToLimit() {
        for (int c = 0; c < 8; c++) {
            CounterLeaper x = Check.compiled("+" + "abcdefgh".charAt(c));
            x.set(c, LIMIT - 1);
            Check.due("+ to LIMIT", x.plain(1), 1);
            Check.due("+ to LIMIT: counter " + c, x.counter(c), LIMIT);
            x.start();
            Check.due("+ at LIMIT", x.plain(1), 0);
            Check.due("+ at LIMIT: counter " + c, x.counter(c), LIMIT);
        }
    }

    /** "- makes it 1 less and goes on; but if it is 0 it stays so, and the step goes to where the label is" */
    private static void minusDownToZero() {
        CounterLeaper x = Check.started("-aZ;+b;Z:.", 1);
        x.plain(1);
        where("- of 1", x, 0, 1, 1, 0);
        CounterLeaper y = Check.started("-aZ;+b;Z:.", 0);
        y.plain(1);
        where("- of 0", y, 1, 2, 1, 0);
        CounterLeaper z = Check.started("-aZ;+b;Z:.", LIMIT);
        z.plain(1);
        where("- of LIMIT", z, 0, 1, 1, LIMIT - 1);
        CounterLeaper w = Check.started("A:-aA");
        Check.due("- of 0 to itself, each is a step", w.plain(9), 9);
        where("- of 0 to itself", w, 0, 0, 9, 0);
        w.set(0, 1);
        w.plain(9);
        where("- of 1 as the last", w, 1, 1, 10, 0);
        CounterLeaper v = Check.started("+b;A:-aA;>A", 0);
        v.plain(1);
        v.plain(1);
        where("- of 0 back", v, 0, 1, 2, 0);
    }

    /** "> goes to where the label is. Each is one step." */
    private static void goes() {
        CounterLeaper x = Check.started(">C;A:>B;B:.;C:>A");
        int[] want = {0, 3, 1, 2, 2};
        for (int i = 0; i < want.length; i++) {
            Check.due("> to > to >, step " + i, x.at(), want[i]);
            Check.due("> to > to >, steps " + i, x.steps(), Math.min(i, 3));
            x.plain(1);
        }
        CounterLeaper y = Check.started("A:>A");
        y.plain(1000);
        where("> to itself", y, 0, 0, 1000, 0);
    }

    /** "it is HALTED (1) at a point", whatever the counters and the steps */
    private static void haltedAtPoint() {
        where("the first is a point", Check.started(".;+a", LIMIT), 1, 0, 0, LIMIT);
        CounterLeaper x = Check.late(".", 0, LIMIT);
        Check.due("at a point when all steps were made", x.state(), 1);
        Check.due("at a point when all steps were made: run()", x.run(1), 1);
        Check.due("at a point when all steps were made: plain()", x.plain(1), 0);
    }

    /** "or behind the last instruction" */
    private static void haltedBehindTheLast() {
        CounterLeaper x = Check.started("+a", LIMIT - 1);
        x.plain(2);
        where("behind the last", x, 1, 1, 1, LIMIT);
        CounterLeaper y = Check.started("+a;".repeat(24));
        y.plain(23);
        where("at the 24th", y, 0, 23, 23, 23);
        y.plain(9);
        where("behind the 24th", y, 1, 24, 24, 24);
        CounterLeaper z = Check.late("+a", 1, 5);
        Check.due("one step left", z.state(), 0);
        Check.due("one step left: plain()", z.plain(2), 1);
        Check.due("behind the last when all steps were made", z.state(), 1);
        Check.due("behind the last when all steps were made: at()", z.at(), z.size());
    }

    /** "STUCK (2) at + if the counter is LIMIT" */
    private static void stuckAtLimit() {
        Check.due("+ at LIMIT", Check.started("+a", LIMIT).state(), 2);
        Check.due("+ one below LIMIT", Check.started("+a", LIMIT - 1).state(), 0);
        Check.due("+ with another at LIMIT", Check.started("+b", LIMIT).state(), 0);
        Check.due("- at LIMIT", Check.started("A:-aA", LIMIT).state(), 0);
        Check.due("> with a counter at LIMIT", Check.started("A:>A", LIMIT).state(), 0);
        CounterLeaper h = Check.compiled("+h");
        h.set(7, LIMIT);
        Check.due("+h at LIMIT", h.state(), 2);
    }

    /** "or at any instruction but a point when 1000000000000000 steps were made" */
    private static void stuckWhenAllStepsWereMade() {
        for (String body : new String[] {"+a", "-aX", ">X", "A:+a;>A", UP_AND_DOWN, "-aZ;Z:."}) {
            CounterLeaper x = Check.late(body, 0, 5);
            Check.due("no step left at " + body, x.state(), 2);
            Check.due("no step left at " + body + ": run()", x.run(3), 2);
            Check.due("no step left at " + body + ": plain()", x.plain(3), 0);
            Check.due("no step left at " + body + ": steps()", x.steps(), MOST);
            CounterLeaper y = Check.late(body, 1, 5);
            Check.due("one step left at " + body, y.state(), 0);
            Check.due("one step left at " + body + ": plain()", y.plain(3), 1);
            Check.due("one step left at " + body + ": steps()", y.steps(), MOST);
        }
    }

    /** "else ENDLESS (3) at the head of a loop from which a pass is full that changes no counter" */
    private static void endlessAtTheHead() {
        CounterLeaper x = Check.started(UP_AND_DOWN, LIMIT - 1);
        where("up and down by one", x, 3, 0, 0, LIMIT - 1);
        x.plain(1);
        Check.due("up and down, behind the head", x.state(), 0);
        x.plain(1);
        Check.due("up and down, at the end", x.state(), 0);
        x.plain(1);
        where("up and down, at the head again", x, 3, 0, 3, LIMIT - 1);
        Check.due("stuck goes first", Check.started(UP_AND_DOWN, LIMIT).state(), 2);
        Check.due("down and up", Check.started("A:-aB;+a;>A;B:.", 1).state(), 3);
        Check.due("down and up at LIMIT", Check.started("A:-aB;+a;>A;B:.", LIMIT).state(), 3);
        Check.due("down and up of 0, by the label", Check.started("A:-aB;+a;>A;B:.", 0).state(), 0);
        Check.due("up twice and down once", Check.started("A:+a;+a;-aB;>A;B:.", 0).state(), 0);
        Check.due("up of one, down of another", Check.started("A:+a;-bB;>A;B:.", 0, 5).state(), 0);
        Check.due("no full pass, though it comes back", Check.started("A:-aA;>A").state(), 0);
        Check.due("an endless > is no loop", Check.started("A:>A").state(), 0);
        Check.due("drains there and back", Check.started(THERE_AND_BACK, LIMIT).state(), 3);
        Check.due("drains of nothing", Check.started(THERE_AND_BACK, 0).state(), 3);
        Check.due("a drain that is not filled again", Check.started("A:+a;-aE;B:-bC;>B;C:>A;E:.", 0, 1).state(), 0);
        Check.due("a drain of nothing", Check.started("A:+a;-aE;B:-bC;>B;C:>A;E:.", 0, 0).state(), 3);
    }

    /** The full pass of an endless loop, too, has "no more than 1000000000000000 steps in all" */
    private static void endlessWithStepsForAPass() {
        CounterLeaper x = Check.late(UP_AND_DOWN, 3);
        Check.due("endless, steps for one pass", x.state(), 3);
        Check.due("endless, steps for one pass: run()", x.run(9), 3);
        Check.due("endless, steps for one pass: plain()", x.plain(9), 3);
        Check.due("endless, steps for no pass", x.state(), 2);
        CounterLeaper y = Check.late(UP_AND_DOWN, 2);
        Check.due("endless but for a step", y.state(), 0);
        Check.due("endless but for a step: run()", y.run(9), 2);
        Check.due("endless but for a step: steps()", y.steps(), MOST);
        // +e, 7 steps of the first drain, 7 of the second, -e and >
        Check.due("endless with drains, steps for one pass", Check.late(THERE_AND_BACK, 17, 2).state(), 3);
        Check.due("endless with drains but for a step", Check.late(THERE_AND_BACK, 16, 2).state(), 0);
    }

    /** "It is what the machine is now, .. whatever was called before, and whether leaps are on or off." */
    private static void whatTheMachineIsNow() {
        CounterLeaper x = Check.started("A:-aB;+a;>A;B:.", 1);
        x.leaps(false);
        Check.due("endless with leaps off", x.state(), 3);
        Check.due("endless with leaps off: run()", x.run(1), 3);
        x.set(0, 0);
        Check.due("not endless any more", x.state(), 0);
        x.set(0, LIMIT);
        Check.due("endless again", x.state(), 3);
        x.plain(1);
        x.set(0, LIMIT);
        Check.due("stuck by set()", x.state(), 2);
        x.set(0, LIMIT - 1);
        Check.due("not stuck any more", x.state(), 0);
        x.seek(0);
        x.set(0, 0);
        x.plain(1);
        Check.due("halted", x.state(), 1);
        x.start();
        Check.due("started again", x.state(), 0);
    }

    /** "When halted or stuck it makes no steps (when endless it can make them)." */
    private static void noStepsWhenHaltedOrStuck() {
        CounterLeaper halted = Check.started(".;+a");
        Check.due("halted: plain()", halted.plain(1000), 0);
        Check.due("halted: run()", halted.run(1000), 1);
        Check.due("halted: seek()", halted.seek(1), 0);
        where("halted", halted, 1, 0, 0, 0);
        CounterLeaper stuck = Check.started("+a;.", LIMIT);
        Check.due("stuck: plain()", stuck.plain(1000), 0);
        Check.due("stuck: run()", stuck.run(1000), 2);
        Check.due("stuck: seek()", stuck.seek(1), 2);
        where("stuck", stuck, 2, 0, 0, LIMIT);
        CounterLeaper endless = Check.started(UP_AND_DOWN);
        Check.due("endless: plain()", endless.plain(1), 1);
        Check.due("endless: run() from within", endless.run(1), 0);
        where("endless", endless, 0, 2, 2, 0);
        Check.due("endless: run() to the head", endless.run(1000), 3);
        where("endless, at the head", endless, 3, 0, 3, 0);
    }

    private static void drainsDue(String text, int loops, int drains) {
        CounterLeaper x = Check.compiled(text);
        Check.due("loops() of " + text, x.loops(), loops);
        Check.due("the drains of the first loop of " + text, x.loop(0, 2), drains);
    }

    /** "then instructions + of other counters than c, none, one or more; then > to the first one" */
    private static void drainsOfNoneOneOrMore() {
        drainsDue("A:+h;B:-aC;>B;C:>A", 2, 1);
        drainsDue("A:+h;B:-aC;+b;>B;C:>A", 2, 1);
        drainsDue("A:+h;B:-aC;+b;+b;+c;+h;>B;C:>A", 2, 1);
        // as long as a program lets it be: 19 + in it
        drainsDue("A:+h;B:-aC;" + "+b;".repeat(19) + ">B;C:>A", 2, 1);
        // as many as a program lets them be
        StringBuilder many = new StringBuilder("A:+h;");
        for (char c = 'B'; c < 'M'; c++) {
            many.append(c).append(":-a").append((char) (c + 1)).append(";>").append(c).append(';');
        }
        drainsDue(many.append("M:>A").toString(), 12, 11);
        CounterLeaper x = Check.started(many.toString(), LIMIT);
        x.run(1);
        // +h, the first drain of all the a, ten of none, >
        latest("eleven drains, the first is not empty", x, 1, 0, 1, 1 + 2L * LIMIT + 1 + 10 + 1);
    }

    /** No drain, and so no loop round it: each differs from a drain by one thing */
    private static void notDrains() {
        for (String text : new String[] {
            "A:+h;B:-aC;+a;>B;C:>A",
            "A:+h;B:-aC;+b;+a;>B;C:>A",
            "A:+h;B:-aC;-bC;>B;C:>A",
            "A:+h;B:-aB;+b;>B;C:>A",
            "A:+h;B:-aA;+b;>B;C:>A",
            "A:+h;B:-aD;+b;D:>B;C:>A",
            "A:+h;B:-aD;+b;>B;C:>A;D:.",
        }) {
            drainsDue(text, 1, 0);
            Check.due("the head of the loop in " + text, Check.compiled(text).loop(0, 0), 1);
        }
        drainsDue("A:+h;B:-aC;+b;.;C:>A", 0, -1);
        drainsDue("A:+h;D:B:-aC;+b;>D;C:>A", 2, 1);
        drainsDue("A:+h;B:+a;-aC;>B;C:>A", 1, 0);
        drainsDue("A:+h;B:-aC;+b;>C;C:>A", 0, -1);
        drainsDue("A:+h;B:-aC;+b;>A;C:>A", 1, 0);
    }

    /** "from the head on +, - and drains, at least one of these, and then > to the head, its END" */
    private static void loopsOfOneOrMore() {
        drainsDue("A:>A", 0, -1);
        drainsDue("A:+a;>A", 1, 0);
        drainsDue("A:-aA;>A", 1, 0);
        drainsDue("+a;>A;A:.", 0, -1);
        drainsDue("A:+a;.;>A", 0, -1);
        drainsDue("A:+a;+a", 0, -1);
        drainsDue("A:+a;B:>B;>A", 0, -1);
        String longest = "A:" + "+a;".repeat(23) + ">A";
        drainsDue(longest, 1, 0);
        Check.due("the end of the longest loop", Check.compiled(longest).loop(0, 1), 23);
        CounterLeaper x = Check.started(longest, LIMIT - 46);
        x.run(1);
        latest("two passes of the longest loop", x, 1, 0, 2, 24);
        // each instruction of a row can be a head, if the > behind it leads there
        for (int head = 0; head < 23; head++) {
            CounterLeaper y = Check.compiled("+a;".repeat(head) + "A:+a;" + "+a;".repeat(22 - head) + ">A");
            Check.due("one loop", y.loops(), 1);
            Check.due("its head", y.loop(0, 0), head);
            Check.due("its end", y.loop(0, 1), 23);
        }
    }

    /** "but a - at the head is just that, so that a drain is a loop, too" */
    private static void minusAtTheHead() {
        CounterLeaper x = Check.started("A:-aB;+b;>A;B:.", 5);
        Check.due("a drain is a loop", x.loops(), 1);
        Check.due("a drain is a loop with no drains", x.loop(0, 2), 0);
        Check.due("a drain, a pass is one round", x.change(0, 0), -1);
        x.run(1);
        latest("a drain of 5", x, 1, 0, 5, 3);
        // of an empty one no pass is full, as it goes by its label
        CounterLeaper y = Check.started("A:-aB;+b;>A;B:.", 0);
        Check.dueThrow("an empty drain is no full pass", UnsupportedOperationException.class, () -> y.change(0, 0));
        y.run(1);
        latest("an empty drain", y, 0, -1, -1, -1);
        where("an empty drain", y, 1, 3, 1, 0);
        // the > behind a drain at the head does not close a loop round it
        drainsDue("A:-aB;+b;>A;B:>A", 1, 0);
    }

    private static void full(String told, CounterLeaper x, int k, boolean want) {
        if (want) {
            Check.due(told, x.change(k, 7), 0);
        } else {
            Check.dueThrow(told, UnsupportedOperationException.class, () -> x.change(k, 7));
        }
    }

    /** "without going by the label of any - but those at which drains begin" */
    private static void fullWithoutGoingByALabel() {
        full("- of 1", Check.started("A:-aB;>A;B:.", 1), 0, true);
        full("- of 0", Check.started("A:-aB;>A;B:.", 0), 0, false);
        full("- of 0 that goes just on", Check.started("A:-aB;B:+b;>A", 0), 0, false);
        full("- of 0 that goes to the end", Check.started("A:+b;-aB;B:>A", 0), 0, false);
        full("- of 0 that goes to the head", Check.started("A:+b;-aA;>A", 0), 0, false);
        full("- of 1, twice", Check.started("A:-aB;-aB;>A;B:.", 1), 0, false);
        full("- of 2, twice", Check.started("A:-aB;-aB;>A;B:.", 2), 0, true);
        full("- behind +", Check.started("A:+a;-aB;>A;B:.", 0), 0, true);
        full("- behind an empty drain to it", Check.started("A:+c;B:-bC;+a;>B;C:-aE;>A;E:.", 0, 0), 0, false);
        full("- behind a drain to it", Check.started("A:+c;B:-bC;+a;>B;C:-aE;>A;E:.", 0, 1), 0, true);
        full("- behind a drain of it", Check.started("A:+c;B:-aC;>B;C:-aE;>A;E:.", 5), 0, false);
        full("an empty drain", Check.started("A:+c;B:-aC;>B;C:>A", 0), 0, true);
    }

    /** "without getting stuck" */
    private static void fullWithoutGettingStuck() {
        full("+ one below LIMIT", Check.started("A:+a;>A", LIMIT - 1), 0, true);
        full("+ at LIMIT", Check.started("A:+a;>A", LIMIT), 0, false);
        full("+ twice, one below LIMIT", Check.started("A:+a;+a;>A", LIMIT - 1), 0, false);
        full("- before + at LIMIT", Check.started("A:-aB;+a;>A;B:.", LIMIT), 0, true);
        full("+ at LIMIT before -", Check.started("A:+a;-aB;>A;B:.", LIMIT), 0, false);
        String drain = "A:+c;B:-aC;+b;+b;>B;C:>A";
        full("a drain up to LIMIT", Check.started(drain, 3, LIMIT - 6), 0, true);
        full("a drain beyond LIMIT", Check.started(drain, 3, LIMIT - 5), 0, false);
        full("a drain of LIMIT to LIMIT", Check.started("A:+c;B:-aC;+b;>B;C:>A", LIMIT, 0), 0, true);
        full("a drain of LIMIT beyond it", Check.started("A:+c;B:-aC;+b;>B;C:>A", LIMIT, 1), 0, false);
        full("an empty drain to LIMIT", Check.started(drain, 0, LIMIT), 0, true);
        full("a drain to what was drained", Check.started("A:+c;B:-aC;>B;C:-bD;+a;>C;D:>A", LIMIT, LIMIT), 0, true);
    }

    /** "and with no more than 1000000000000000 steps in all": of those made before, too, but for change() */
    private static void fullWithNoMoreSteps() {
        // with a = 1, b = 4: 1, 17, 13 and 1 steps
        CounterLeaper x = Check.late(TIMES, 32, 1, 4);
        Check.due("a pass of just the steps left", x.run(1), 2);
        Check.due("a pass of just the steps left: leap(2)", x.leap(2), 1);
        Check.due("a pass of just the steps left: steps()", x.steps(), MOST);
        CounterLeaper y = Check.late(TIMES, 31, 1, 4);
        Check.due("a pass of one step more", y.run(1), 0);
        Check.due("a pass of one step more: leap(0)", y.leap(0), 0);
        Check.due("a pass of one step more: steps()", y.steps(), MOST - 30);
        CounterLeaper z = Check.late("A:+a;>A", 0, 5);
        Check.due("change(), no steps left", z.change(1, 0), 1);
    }

    /** "none if all changes are 0 (it is endless)" */
    private static void noLeapWithoutChanges() {
        CounterLeaper x = Check.started(THERE_AND_BACK, 5);
        Check.due("endless: run()", x.run(1000), 3);
        latest("endless", x, 0, -1, -1, -1);
        where("endless", x, 3, 0, 0, 5);
    }

    /** "otherwise, if the counter of some drain of the loop has a change that is not 0, by one pass" */
    private static void onePassWhenADrainsCounterChanges() {
        String more = "A:+a;B:-aC;+b;>B;C:-bD;+a;>C;D:>A";
        CounterLeaper x = Check.started(more, 5);
        x.run(1);
        // +a, 6 rounds there and 6 back, >
        latest("a drain's counter is more", x, 1, 0, 1, 1 + 19 + 19 + 1);
        Check.due("a drain's counter is more: a", x.counter(0), 6);
        CounterLeaper y = Check.started("A:+c;B:-aC;>B;C:>A", 5, 0, LIMIT - 9);
        y.run(1);
        latest("a drain's counter is less", y, 1, 0, 1, 1 + 11 + 1);
        y.run(1);
        latest("a drain's counter is as before", y, 2, 0, 8, 3);
        // the last of the drains counts as well as the first
        CounterLeaper z = Check.started("A:+h;B:-aC;>B;C:-bD;>C;D:>A", 0, 1);
        z.run(1);
        latest("the second drain's counter is less", z, 1, 0, 1, 1 + 1 + 3 + 1);
        // with changes of 0 before and behind it, a drain does run
        CounterLeaper w = Check.started("A:-hE;+a;+a;B:-aC;+b;>B;C:>A;E:.", 0, LIMIT - 7, 0, 0, 0, 0, 0, 9);
        w.run(1);
        latest("a drain's counter is filled in the pass", w, 1, 0, 3, 11);
        Check.due("a drain's counter is filled in the pass: b", w.counter(1), LIMIT - 1);
    }

    private static void passesDue(String text, int passes, int... values) {
        CounterLeaper x = Check.started(text, values);
        x.run(1);
        Check.due("the passes of " + text + " from " + values[0], x.leap(2), passes);
    }

    /** "otherwise by as many full passes as can be made one after the other" */
    private static void asManyPassesAsCanBeMade() {
        passesDue("A:+a;>A", 1, LIMIT - 1);
        passesDue("A:+a;>A", LIMIT, 0);
        passesDue("A:-aB;>A;B:.", 1, 1);
        passesDue("A:-aB;>A;B:.", LIMIT, LIMIT);
        passesDue("A:+a;+a;>A", 1, LIMIT - 2);
        passesDue("A:+a;+a;>A", 1, LIMIT - 3);
        passesDue("A:+a;+a;>A", 2, LIMIT - 4);
        passesDue("A:-aB;-aB;>A;B:.", 1, 2);
        passesDue("A:-aB;-aB;>A;B:.", 1, 3);
        passesDue("A:-aB;-aB;>A;B:.", 2, 4);
        // it goes higher, or lower, within the pass than behind it
        passesDue("A:+a;+a;-aB;>A;B:.", 1, LIMIT - 2);
        passesDue("A:+a;+a;-aB;>A;B:.", 2, LIMIT - 3);
        passesDue("A:-aB;-aB;+a;>A;B:.", 1, 2);
        passesDue("A:-aB;-aB;+a;>A;B:.", 2, 3);
        // the counter with the least room
        passesDue("A:-aB;-bB;+c;+d;>A;B:.", 3, 3, 4, LIMIT - 5, LIMIT - 6);
        passesDue("A:-aB;-bB;+c;+d;>A;B:.", 3, 4, 3, LIMIT - 5, LIMIT - 6);
        passesDue("A:-aB;-bB;+c;+d;>A;B:.", 3, 4, 5, LIMIT - 3, LIMIT - 6);
        passesDue("A:-aB;-bB;+c;+d;>A;B:.", 3, 4, 5, LIMIT - 6, LIMIT - 3);
        // by a drain: c is more by b in each pass
        passesDue(TIMES, 5, 9, 3, LIMIT - 17);
        passesDue(TIMES, 6, 9, 3, LIMIT - 18);
        passesDue(TIMES, 9, 9, 3, LIMIT - 27);
        passesDue(TIMES, 1, LIMIT, LIMIT, 0);
        passesDue(TIMES, LIMIT, LIMIT, 1, 0);
        passesDue(TIMES, LIMIT, LIMIT, 0, LIMIT);
    }

    private static void lateDue(String body, int left, int passes, int... values) {
        CounterLeaper x = Check.late(body, left, values);
        String told = body + " with " + left + " steps left";
        x.run(1);
        Check.due(told + ": leap(0)", x.leap(0), passes > 0 ? 1 : 0);
        Check.due(told + ": leap(2)", x.leap(2), passes > 0 ? passes : -1);
        Check.due(told + ": it gets stuck", x.run(1000), 2);
        Check.due(told + ": it makes all steps", x.steps(), MOST);
    }

    /** As many passes, too, as there are steps for until 1000000000000000 were made */
    private static void asManyPassesAsThereAreStepsFor() {
        lateDue("A:+a;>A", 1, 0, 0);
        lateDue("A:+a;>A", 2, 1, 0);
        lateDue("A:+a;>A", 3, 1, 0);
        lateDue("A:+a;>A", 4, 2, 0);
        lateDue("A:+a;>A", 999999, 499999, 0);
        lateDue("A:-aB;>A;B:.", 20, 10, 11);
        lateDue("A:-aB;>A;B:.", 20, 10, 10);
        lateDue(TIMES, 95, 2, 3, 4);
        lateDue(TIMES, 96, 3, 3, 4);
        lateDue(TIMES, 31, 0, 3, 4);
        // one pass, of 13 steps, as the counter of the drain changes
        lateDue("A:+c;B:-aC;>B;C:>A", 12, 0, 5);
        lateDue("A:+c;B:-aC;>B;C:>A", 13, 1, 5);
        lateDue("A:+c;B:-aC;>B;C:>A", 26, 1, 5);
    }

    /** "A MOVE is a leap, if it can leap and leaps are ON; else a step." */
    private static void movesAreLeapsWhenOn() {
        CounterLeaper x = Check.started("A:-aB;>A;B:.", 3);
        x.leaps(false);
        x.run(2);
        where("two moves with leaps off", x, 0, 0, 2, 2);
        x.leaps(true);
        x.run(1);
        where("a move with leaps on", x, 0, 0, 6, 0);
        x.run(1);
        where("it cannot leap any more", x, 1, 2, 7, 0);
        latest("in all", x, 1, 0, 2, 2);
        // at an instruction that is no head
        CounterLeaper y = Check.started("A:-aB;>A;B:.", 3);
        y.plain(1);
        y.run(1);
        where("a move at the end is a step", y, 0, 0, 2, 2);
        Check.due("a move at the end is a step: leap(0)", y.leap(0), 0);
    }

    /** All steps, by leaps of a million passes of six million steps: by run(), and by seek() */
    private static void allStepsByRunAndSeek() {
        String text = "A:-aE;+e;B:-bC;+d;>B;C:-dD;+b;>C;D:>A;E:-eF;+a;>E;F:-gZ;>A;Z:.";
        int[] values = {LIMIT, LIMIT, 0, 0, 0, 0, LIMIT};
        long pass = 2 + 2 * (3L * LIMIT + 1) + 1;
        long round = LIMIT * pass + 1 + 3L * LIMIT + 1 + 2;
        long rest = MOST - MOST / round * round;
        int passes = (int) (rest / pass);
        // the steps that are left lead through the first drain of the next pass into the second one
        long inDrain = rest % pass - 2 - (3L * LIMIT + 1);
        CounterLeaper x = Check.started(text, values);
        Check.due("run(1000) to all steps", x.run(1000), 0);
        Check.due("run(1000) to all steps, again", x.run(1000), 2);
        CounterLeaper y = Check.started(text, values);
        Check.due("seek() of all steps", y.seek(MOST), 1);
        for (CounterLeaper each : new CounterLeaper[] {x, y}) {
            where("all steps", each, 2, 5 + (int) (inDrain % 3), MOST, LIMIT - passes - 1);
            Check.due("all steps: e", each.counter(4), passes + 1);
            Check.due("all steps: g", each.counter(6), LIMIT - MOST / round);
            Check.due("all steps: b", each.counter(1), (inDrain + 1) / 3);
            Check.due("all steps: d", each.counter(3), LIMIT - (inDrain + 2) / 3);
        }
        Check.due("seek() of all steps but one", y.seek(MOST - 1), 1);
        Check.due("seek() of all steps but one, and a step", y.plain(2), 1);
        Check.same("a step to all steps", Check.where(y), Check.where(x));
        Check.due("seek() of all steps, where run() came to", x.seek(MOST), 1);
        Check.same("seek() there", Check.where(x), Check.where(y));
    }
}
