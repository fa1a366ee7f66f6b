/** What the tests share: they count wrong answers, and type texts into new objects. */
final class Check {
    static final long MOST = 1000000000000000L;

    private static int wrong = 0;
    private static int answers = 0;

    private Check() {
    }

    /** A call that may throw. */
    interface Call {
        void make();
    }

    static void due(String call, long got, long want) {
        answers++;
        if (got != want) {
            wrong++;
            System.out.println(call + " answered " + got + ", due is " + want);
        }
    }

    static void dueThrow(String call, Class<? extends RuntimeException> want, Call made) {
        Class<?> got = null;
        try {
            made.make();
        } catch (RuntimeException e) {
            got = e.getClass();
        }
        answers++;
        if (got != want) {
            wrong++;
            System.out.println(call + " threw " + got + ", due is " + want);
        }
    }

    /** As dueThrow, and the call changes nothing that can be asked for. */
    static void refused(String call, Class<? extends RuntimeException> want, CounterLeaper x, Call made) {
        String before = picture(x);
        dueThrow(call, want, made);
        same(call + " changes nothing", picture(x), before);
    }

    static void same(String told, String got, String want) {
        answers++;
        if (!got.equals(want)) {
            wrong++;
            System.out.println(told + ": got " + got + ", due is " + want);
        }
    }

    /** What all calls answer that change nothing. */
    static String picture(CounterLeaper x) {
        StringBuilder s = new StringBuilder();
        for (int i = 0; i < x.size(); i++) {
            s.append(x.instruction(i, 0)).append(' ').append(x.instruction(i, 1)).append(' ');
            s.append(x.instruction(i, 2)).append("; ");
        }
        for (int k = 0; k < x.loops(); k++) {
            s.append(x.loop(k, 0)).append('-').append(x.loop(k, 1)).append('-').append(x.loop(k, 2));
            for (int c = 0; c < 8; c++) {
                s.append(' ').append(changeOrThrow(x, k, c));
            }
            s.append("; ");
        }
        return s.append(where(x)).append(" leaps ").append(x.leap(0)).append(' ').append(x.leap(1))
                .append(' ').append(x.leap(2)).append(' ').append(x.leap(3)).toString();
    }

    private static String changeOrThrow(CounterLeaper x, int k, int c) {
        try {
            return Integer.toString(x.change(k, c));
        } catch (UnsupportedOperationException e) {
            return "not full";
        }
    }

    /** The state, where it is, its steps and its counters. */
    static String where(CounterLeaper x) {
        StringBuilder s = new StringBuilder("state " + x.state() + " at " + x.at() + " steps " + x.steps() + " with");
        for (int c = 0; c < 8; c++) {
            s.append(' ').append(x.counter(c));
        }
        return s.toString();
    }

    /** Prints how the test went and ends it, with exit code 1 if an answer was wrong. */
    static void end() {
        System.out.println(answers + " answers, " + wrong + " of them not as due");
        if (wrong != 0) {
            System.exit(1);
        }
    }

    static void type(CounterLeaper x, String text) {
        for (int from = 0; from < text.length(); from += 8) {
            int to = Math.min(from + 8, text.length());
            long characters = 0;
            for (int i = from; i < to; i++) {
                characters = characters << 8 | text.charAt(i);
            }
            x.type(characters, to - from);
        }
    }

    static CounterLeaper typed(String text) {
        CounterLeaper x = new CounterLeaper();
        type(x, text);
        return x;
    }

    static CounterLeaper compiled(String text) {
        CounterLeaper x = typed(text);
        due("compile() of " + text, x.compile(), 0);
        return x;
    }

    /** A machine with that program, started with the values of a, b, .. */
    static CounterLeaper started(String text, int... values) {
        CounterLeaper x = typed(text);
        for (int c = 0; c < values.length; c++) {
            x.set(c, values[c]);
        }
        due("compile() of " + text, x.compile(), 0);
        return x;
    }

    /**
     * A machine at the first instruction of the body, of which so many steps are left to make, with
     * the values of a, b, ..
     */
    static CounterLeaper late(String body, int left, int... values) {
        long before = MOST - left - 1;
        CounterLeaper x = started(lateText(body, left), 0, 0, 0, 0, 0, 0, 0, 1);
        due("seek(" + before + ") before " + body, x.seek(before), 1);
        x.set(6, 0);
        x.set(7, 0);
        for (int c = 0; c < values.length; c++) {
            x.set(c, values[c]);
        }
        due("one step to " + body, x.plain(1), 1);
        due("the steps made before " + body, x.steps(), MOST - left);
        return x;
    }

    /** A loop before the body is endless while there is an h; the +g make the steps come out even. */
    static String lateText(String body, int left) {
        return "+g;".repeat((int) ((MOST - left - 1) % 3)) + "Y:-hX;+h;>Y;X:" + body;
    }
}
