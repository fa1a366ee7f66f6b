/**
 * seek() against plain() and run() on made-up programs, the same in every run: with many steps, where
 * the reference would be too slow.
 */
public final class SeekTest {
    private static final int PROGRAMS = 12000;
    private static final int SEEKS = 8;
    private static final int MOST_TOGETHER = 2000;

    private static final Maker MAKER = new Maker(20261116);
    private static int far = 0;
    private static int ends = 0;
    private static int lasts = 0;
    private static int refused = 0;

    private SeekTest() {
    }

    public static void main(String[] args) {
        int followed = 0;
        for (int i = 0; i < PROGRAMS; i++) {
            String text = MAKER.anyProgram();
            if (text.length() <= 120 && Check.typed(text).compile() == 0) {
                follow(text);
                followed++;
            }
        }
        System.out.println(followed + " programs, " + far + " places behind a billion steps, " + lasts
                + " near the most, " + ends + " where it rests, " + refused + " seeks refused");
        Check.due("enough programs were followed", followed > PROGRAMS / 2 ? 1 : 0, 1);
        Check.due("enough far places", far > 500 && lasts > 500 ? 1 : 0, 1);
        Check.due("enough ends and refused", ends > 500 && refused > 100 ? 1 : 0, 1);
        Check.end();
    }

    private static void follow(String text) {
        int[] values = new int[4];
        StringBuilder told = new StringBuilder(text).append(" with");
        for (int c = 0; c < values.length; c++) {
            values[c] = anyValue();
            told.append(' ').append(values[c]);
        }
        CounterLeaper x = Check.started(text, values);
        for (int i = 0; i < SEEKS; i++) {
            stepsBehind(told.toString(), x, anySteps());
        }
        asRun(told.toString(), Check.started(text, values));
    }

    private static int anyValue() {
        return MAKER.below(3) == 0 ? MAKER.below(Reference.LIMIT + 1) : MAKER.anyValue();
    }

    /** A few, any number of them with 1 to 15 digits, or nearly the most. */
    private static long anySteps() {
        long steps = 0;
        switch (MAKER.below(5)) {
            case 0:
                return MAKER.below(100);
            case 1:
                return Check.MOST - MAKER.below(100);
            default:
                for (int digits = 1 + MAKER.below(15); digits > 0; digits--) {
                    steps = 10 * steps + MAKER.below(10);
                }
                return steps;
        }
    }

    /** The answer of seek(), or 9 when it is refused. */
    private static int sought(CounterLeaper x, long steps) {
        try {
            return x.seek(steps);
        } catch (UnsupportedOperationException e) {
            refused++;
            return 9;
        }
    }

    /** So many plain steps behind a place is the place that is sought with so many steps more. */
    private static void stepsBehind(String told, CounterLeaper x, long steps) {
        String call = told + ": seek(" + steps + ")";
        int answer = sought(x, steps);
        if (answer == 1) {
            Check.due(call + ": steps()", x.steps(), steps);
            far += steps > 1000000000 ? 1 : 0;
            lasts += steps > Check.MOST - 1000 ? 1 : 0;
            goOn(call, x, steps);
        } else if (answer != 9) {
            ends++;
            whereItRests(call, x, answer);
        }
    }

    private static void goOn(String call, CounterLeaper x, long steps) {
        int more = MAKER.below(60);
        int made = x.plain(more);
        String place = Check.where(x);
        long to = Math.min(steps + more, Check.MOST);
        int due = steps + made == to ? 1 : x.state() == 1 ? 0 : 2;
        int answer = sought(x, to);
        if (answer != 9) {
            Check.due(call + " and " + more + " steps more: seek(" + to + ")", answer, due);
            Check.same(call + " and " + more + " steps more", Check.where(x), place);
        }
    }

    private static void whereItRests(String call, CounterLeaper x, int answer) {
        String place = Check.where(x);
        Check.due(call + ": state()", x.state(), answer == 0 ? 1 : 2);
        Check.due(call + " and no step more", x.plain(1), 0);
        long last = x.steps();
        Check.due(call + ", the last step: seek()", x.seek(last), 1);
        Check.same(call + ", the last step", Check.where(x), place);
        if (last > 0 && sought(x, last - 1) != 9) {
            Check.due(call + ", the last step but one: plain(1)", x.plain(1), 1);
            Check.same(call + ", the last step but one and a step", Check.where(x), place);
        }
    }

    /** Where run() comes by so many moves, seek() comes by as many leaps and steps: 2000 at most. */
    private static void asRun(String told, CounterLeaper x) {
        int moves = MAKER.below(4) == 0 ? MOST_TOGETHER : MAKER.below(1000);
        x.run(moves / 2);
        int state = x.run(moves - moves / 2);
        String call = told + ": run(" + moves + ") and seek()";
        String place = Check.where(x);
        long steps = x.steps();
        Check.due(call, x.seek(steps), 1);
        Check.same(call, Check.where(x), place);
        if (moves == MOST_TOGETHER && state == 0) {
            x.run(1);
            Check.refused(call + " a move further", UnsupportedOperationException.class, x,
                    () -> x.seek(x.steps()));
            refused++;
        }
    }
}
