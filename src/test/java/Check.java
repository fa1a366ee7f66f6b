/** What the tests share: they count wrong answers, and type texts into new objects. */
final class Check {
    private static int wrong = 0;
    private static int answers = 0;

    private Check() {
    }

    /** A call that may throw. */
    interface Call {
        void make();
    }

    static void due(String call, long got, long want) {
        answers++;
        if (got != want) {
            wrong++;
            System.out.println(call + " answered " + got + ", due is " + want);
        }
    }

    static void dueThrow(String call, Class<? extends RuntimeException> want, Call made) {
        Class<?> got = null;
        try {
            made.make();
        } catch (RuntimeException e) {
            got = e.getClass();
        }
        answers++;
        if (got != want) {
            wrong++;
            System.out.println(call + " threw " + got + ", due is " + want);
        }
    }

    /** Prints how the test went and ends it, with exit code 1 if an answer was wrong. */
    static void end() {
        System.out.println(answers + " answers, " + wrong + " of them not as due");
        if (wrong != 0) {
            System.exit(1);
        }
    }

    static void type(CounterLeaper x, String text) {
        for (int from = 0; from < text.length(); from += 8) {
            int to = Math.min(from + 8, text.length());
            long characters = 0;
            for (int i = from; i < to; i++) {
                characters = characters << 8 | text.charAt(i);
            }
            x.type(characters, to - from);
        }
    }

    static CounterLeaper typed(String text) {
        CounterLeaper x = new CounterLeaper();
        type(x, text);
        return x;
    }

    static CounterLeaper compiled(String text) {
        CounterLeaper x = typed(text);
        due("compile() of " + text, x.compile(), 0);
        return x;
    }

    /** A machine with that program, started with the values of a, b, .. */
    static CounterLeaper started(String text, int... values) {
        CounterLeaper x = typed(text);
        for (int c = 0; c < values.length; c++) {
            x.set(c, values[c]);
        }
        due("compile() of " + text, x.compile(), 0);
        return x;
    }
}
