/** Made-up texts and programs, the same in every run, against the document's words step by step. */
public final class ReferenceTest {
    private static final int TEXTS = 30000;
    private static final int PROGRAMS = 8000;
    private static final int LATE_PROGRAMS = 2000;
    private static final int BUDGET = 300000;

    private static final Maker MAKER = new Maker(20261115);
    private static int followed = 0;
    private static int leapt = 0;
    private static int leaptWithDrains = 0;
    private static int leaptFarWithDrains = 0;
    private static int endless = 0;
    private static int refused = 0;
    private static int lateStuck = 0;

    private ReferenceTest() {
    }

    public static void main(String[] args) {
        for (int i = 0; i < TEXTS; i++) {
            String text = i % 2 == 0 ? MAKER.anyText() : MAKER.spoilt(MAKER.anyProgram());
            int fault = Check.typed(text).compile();
            Check.due("compile() of '" + text + "'", fault, Reference.fault(text) + 1);
        }
        for (int i = 0; i < PROGRAMS; i++) {
            follow(MAKER.anyProgram());
        }
        int before = followed;
        for (int i = 0; i < LATE_PROGRAMS; i++) {
            followLate(MAKER.anyProgram());
        }
        int late = followed - before;
        System.out.println(followed + " programs, " + late + " of them near the most steps, " + lateStuck
                + " up to these, " + leapt + " leaps, " + leaptWithDrains + " with drains, "
                + leaptFarWithDrains + " of these by several passes, " + endless + " endless, "
                + refused + " seeks refused");
        Check.due("enough programs were followed", followed > PROGRAMS / 2 ? 1 : 0, 1);
        Check.due("enough leaps", leaptWithDrains > 500 && leaptFarWithDrains > 100 ? 1 : 0, 1);
        Check.due("enough near the most steps", late > LATE_PROGRAMS / 3 && lateStuck > 100 ? 1 : 0, 1);
        Check.due("enough endless and refused", endless > 100 && refused > 100 ? 1 : 0, 1);
        Check.end();
    }

    private static void follow(String text) {
        if (text.length() > 120 || Reference.fault(text) >= 0) {
            return;
        }
        Reference r = new Reference(text);
        r.budget = BUDGET;
        CounterLeaper x = Check.typed(text);
        StringBuilder told = new StringBuilder(text).append(" with");
        for (int c = 0; c < 4; c++) {
            r.values[c] = MAKER.anyValue();
            x.set(c, r.values[c]);
            told.append(' ').append(r.values[c]);
        }
        Check.due("compile() of " + text, x.compile(), 0);
        boolean on = MAKER.below(8) > 0;
        x.leaps(on);
        Reference begun = r.copy();
        try {
            parts(told.toString(), x, r);
            moves(told.toString(), x, r, on);
            seeks(told.toString(), x, begun);
            followed++;
        } catch (Reference.TooLong e) {
            // what the words ask is too long to follow by steps
        }
    }

    /** The program, begun where there are few steps left to make. */
    private static void followLate(String text) {
        String all = "+g;+g;Y:-hX;+h;>Y;X:" + text;
        if (all.length() > 120 || Reference.fault(all) >= 0) {
            return;
        }
        int left = MAKER.below(MAKER.below(2) == 0 ? 40 : 1000);
        CounterLeaper x = Check.late(text, left);
        Reference r = new Reference(Check.lateText(text, left));
        r.budget = BUDGET;
        r.place = x.at();
        r.steps = x.steps();
        for (int c = 0; c < 4; c++) {
            r.values[c] = MAKER.anyValue();
            x.set(c, r.values[c]);
        }
        boolean on = MAKER.below(8) > 0;
        x.leaps(on);
        try {
            moves(text + " with " + left + " steps left", x, r, on);
            followed++;
            lateStuck += r.steps == Reference.MOST ? 1 : 0;
        } catch (Reference.TooLong e) {
            // as above
        }
    }

    private static void parts(String told, CounterLeaper x, Reference r) {
        Check.due(told + ": size()", x.size(), r.instructions.size());
        Check.due(told + ": loops()", x.loops(), r.loops.size());
        for (int i = 0; i < r.instructions.size(); i++) {
            Reference.Instruction it = r.instructions.get(i);
            Check.due(told + ": instruction " + i + ", kind", x.instruction(i, 0), "+->.".indexOf(it.sign()));
            Check.due(told + ": instruction " + i + ", counter", x.instruction(i, 1), it.counter());
            Check.due(told + ": instruction " + i + ", label", x.instruction(i, 2), it.target());
        }
        for (int k = 0; k < r.loops.size(); k++) {
            Reference.Loop loop = r.loops.get(k);
            Check.due(told + ": loop " + k + ", head", x.loop(k, 0), loop.head());
            Check.due(told + ": loop " + k + ", end", x.loop(k, 1), loop.end());
            Check.due(told + ": loop " + k + ", drains", x.loop(k, 2), loop.drains());
            changes(told, x, r, k);
        }
    }

    private static void changes(String told, CounterLeaper x, Reference r, int k) {
        Reference next = r.copy();
        boolean full = next.makePass(r.loops.get(k));
        r.budget = next.budget;
        for (int c = 0; c < 8; c++) {
            int counter = c;
            String call = told + ": change(" + k + ", " + c + ")";
            if (full) {
                Check.due(call, x.change(k, c), next.values[c] - r.values[c]);
            } else {
                Check.dueThrow(call, UnsupportedOperationException.class, () -> x.change(k, counter));
            }
        }
    }

    private static void moves(String told, CounterLeaper x, Reference r, boolean on) {
        long leaps = 0;
        for (int i = 0; i < 40; i++) {
            int state = r.state();
            String move = told + (on ? "" : ", leaps off") + ": move " + i;
            Check.due(move + ": state()", x.state(), state);
            if (state != 0) {
                endless += state == 3 ? 1 : 0;
                Check.due(move + ": run(1)", x.run(1), state);
                same(move, x, r);
                return;
            }
            long before = r.steps;
            long passes = on ? r.leapUntil(Reference.MOST) : 0;
            if (passes == 0) {
                r.step();
            }
            x.run(1);
            if (passes > 0) {
                leaps++;
                latestLeap(move, x, r, passes, (r.steps - before) / passes);
            }
            Check.due(move + ": leap(0)", x.leap(0), leaps);
            same(move, x, r);
        }
    }

    private static void latestLeap(String move, CounterLeaper x, Reference r, long passes, long steps) {
        leapt++;
        if (r.loopHere().drains() > 0) {
            leaptWithDrains++;
            leaptFarWithDrains += passes > 1 ? 1 : 0;
        }
        Check.due(move + ": leap(1)", x.leap(1), r.place);
        Check.due(move + ": leap(2)", x.leap(2), passes);
        Check.due(move + ": leap(3)", x.leap(3), steps);
    }

    private static void seeks(String told, CounterLeaper x, Reference begun) {
        for (int i = 0; i < 4; i++) {
            long steps = MAKER.below(i < 2 ? 60 : 20000);
            Reference r = begun.copy();
            r.budget = BUDGET;
            int made = 0;
            while (r.steps < steps && !r.isHalted() && !r.isStuck()) {
                if (r.leapUntil(steps) == 0) {
                    r.step();
                }
                made++;
            }
            String call = told + ": seek(" + steps + ")";
            if (made > 2000) {
                refused++;
                Check.dueThrow(call, UnsupportedOperationException.class, () -> x.seek(steps));
            } else {
                Check.due(call, x.seek(steps), r.steps == steps ? 1 : r.isHalted() ? 0 : 2);
                same(call, x, r);
            }
        }
    }

    private static void same(String told, CounterLeaper x, Reference r) {
        Check.due(told + ": at()", x.at(), r.place);
        Check.due(told + ": steps()", x.steps(), r.steps);
        for (int c = 0; c < 8; c++) {
            Check.due(told + ": counter " + c, x.counter(c), r.values[c]);
        }
    }
}
