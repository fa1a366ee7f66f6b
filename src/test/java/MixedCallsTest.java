/** Made-up runs of calls, the same in every run of the test, each answer against the model's. */
public final class MixedCallsTest {
    private static final int OBJECTS = 1500;
    private static final int CALLS = 512;
    private static final String[] NAMES = {
        "type", "wipe", "compile", "size", "instruction", "loops", "loop", "set", "set", "start", "leaps",
        "run", "run", "run", "plain", "plain", "seek", "seek", "state", "at", "steps", "counter", "change", "leap",
    };
    private static final int[] EDGES = {-1, 0, 1, 2, 3, 4, 7, 8, 9, 23, 24, 999999, 1000000, 1000001};
    private static final int[] AMOUNTS = {-1, 0, 1, 2, 3, 5, 8, 13, 100, 999, 1000, 1001};

    private static final Maker MAKER = new Maker(5112026);
    private static int calls = 0;
    private static int thrown = 0;

    private MixedCallsTest() {
    }

    public static void main(String[] args) {
        for (int i = 0; i < OBJECTS; i++) {
            follow(new CounterLeaper(), new Model());
        }
        System.out.println(calls + " calls, " + thrown + " of them refused");
        Check.due("enough calls", calls > OBJECTS * CALLS / 4 ? 1 : 0, 1);
        Check.due("enough refused calls", thrown > calls / 50 ? 1 : 0, 1);
        Check.end();
    }

    private static void follow(CounterLeaper x, Model model) {
        StringBuilder told = new StringBuilder();
        try {
            for (int made = 0; made < CALLS; made++) {
                if (MAKER.below(30) == 0 || made == 5) {
                    made += write(told, x, model);
                } else {
                    any(told, x, model);
                }
            }
        } catch (Reference.TooLong e) {
            // what the words ask is too long to follow by steps
        }
    }

    /** A whole program in place of the text, that is then read: how many calls it took. */
    private static int write(StringBuilder told, CounterLeaper x, Model model) {
        String text = MAKER.below(3) == 0 ? MAKER.spoilt(MAKER.anyProgram()) : MAKER.anyProgram();
        call(told, x, model, "wipe", 0, 0);
        int made = 2;
        for (int from = 0; from < text.length(); made++) {
            int n = Math.min(1 + MAKER.below(8), text.length() - from);
            long characters = MAKER.below(9);
            for (int i = 0; i < n; i++) {
                characters = characters << 8 | text.charAt(from + i);
            }
            call(told, x, model, "type", characters, n);
            from += n;
        }
        call(told, x, model, "compile", 0, 0);
        return made;
    }

    private static void any(StringBuilder told, CounterLeaper x, Model model) {
        String name = NAMES[MAKER.below(NAMES.length)];
        switch (name) {
            case "type" -> call(told, x, model, name, 0x2020207F3B2E1F00L >>> 8 * MAKER.below(6), MAKER.below(10));
            case "set" -> call(told, x, model, name, MAKER.below(30) == 0 ? edge() : MAKER.below(4), value());
            case "run", "plain" -> call(told, x, model, name, AMOUNTS[MAKER.below(AMOUNTS.length)], 0);
            case "seek" -> call(told, x, model, name, MAKER.below(9) == 0 ? far() : MAKER.below(3000), 0);
            case "leaps" -> call(told, x, model, name, MAKER.below(3), 0);
            default -> call(told, x, model, name, edge(), edge());
        }
    }

    private static int edge() {
        return EDGES[MAKER.below(MAKER.below(4) == 0 ? EDGES.length : 6)];
    }

    private static int value() {
        return MAKER.below(9) == 0 ? edge() : MAKER.anyValue();
    }

    private static long far() {
        return Reference.MOST - 2 + MAKER.below(5);
    }

    private static void call(StringBuilder told, CounterLeaper x, Model model, String name, long p, int q) {
        String want = model.answer(name, p, q);
        String got = made(x, name, p, q);
        calls++;
        thrown += got.endsWith("Exception") ? 1 : 0;
        told.append(name).append('(').append(p).append(", ").append(q).append(") ");
        if (!got.equals(want)) {
            Check.same(told.toString(), got, want);
        }
    }

    private static String made(CounterLeaper x, String name, long p, int q) {
        try {
            return answer(x, name, p, q);
        } catch (RuntimeException e) {
            return e.getClass().getSimpleName();
        }
    }

    private static String answer(CounterLeaper x, String name, long p, int q) {
        switch (name) {
            case "set" -> x.set((int) p, q);
            case "start" -> x.start();
            case "leaps" -> x.leaps(p != 0);
            default -> {
                return Long.toString(number(x, name, p, q));
            }
        }
        return "done";
    }

    private static long number(CounterLeaper x, String name, long p, int q) {
        return switch (name) {
            case "type" -> x.type(p, q);
            case "wipe" -> x.wipe();
            case "compile" -> x.compile();
            case "size" -> x.size();
            case "instruction" -> x.instruction((int) p, q);
            case "loops" -> x.loops();
            case "loop" -> x.loop((int) p, q);
            case "run" -> x.run((int) p);
            case "plain" -> x.plain((int) p);
            case "seek" -> x.seek(p);
            case "state" -> x.state();
            case "at" -> x.at();
            case "steps" -> x.steps();
            case "counter" -> x.counter((int) p);
            case "change" -> x.change((int) p, q);
            default -> x.leap((int) p);
        };
    }
}
