/** The whole face, by the document's words and slowly, on top of the reference: answers as texts. */
final class Model {
    private static final int BUDGET = 100000;
    private static final String ARGUMENT = "IllegalArgumentException";
    private static final String NO_PROGRAM = "IllegalStateException";
    private static final String UNSUPPORTED = "UnsupportedOperationException";
    private static final String INDEX = "IndexOutOfBoundsException";
    private static final String DONE = "done";

    private String text = "";
    /** Without a program, one that is never run keeps the counters. */
    private Reference now = new Reference(".");
    private Reference begun = null;
    private boolean on = true;
    private long[] latest = {0, -1, -1, -1};

    /** The call with that name; throws TooLong when its answer would take too long to find. */
    String answer(String name, long p, int q) {
        now.budget = BUDGET;
        return switch (name) {
            case "type" -> type(p, q);
            case "wipe" -> wipe();
            case "compile" -> compile();
            case "size" -> "" + (begun == null ? 0 : now.instructions.size());
            case "instruction" -> "" + instruction((int) p, q);
            case "loops" -> "" + now.loops.size();
            case "loop" -> "" + loop((int) p, q);
            case "set" -> set((int) p, q);
            case "start" -> begun == null ? NO_PROGRAM : start();
            case "leaps" -> leaps(p != 0);
            case "run" -> begun == null ? NO_PROGRAM : run(p);
            case "plain" -> begun == null ? NO_PROGRAM : plain(p);
            case "seek" -> begun == null ? NO_PROGRAM : seek(p);
            case "state" -> "" + now.state();
            case "at" -> "" + now.place;
            case "steps" -> "" + now.steps;
            case "counter" -> "" + (p >= 0 && p < 8 ? now.values[(int) p] : -1);
            case "change" -> change(p, q);
            default -> "" + (p >= 0 && p < 4 ? latest[(int) p] : -1);
        };
    }

    private String type(long p, int n) {
        StringBuilder typed = new StringBuilder();
        for (int i = n - 1; i >= 0 && n <= 8; i--) {
            typed.append((char) (p >> 8 * i & 255));
        }
        if (n < 1 || n > 8 || !typed.toString().matches("[ -~]*")) {
            return ARGUMENT;
        }
        if (text.length() + n > 120) {
            return UNSUPPORTED;
        }
        text += typed;
        return "" + text.length();
    }

    private String wipe() {
        int had = text.length();
        text = "";
        return "" + had;
    }

    private String compile() {
        int fault = Reference.fault(text);
        if (fault < 0) {
            Reference next = new Reference(text);
            next.values = now.values;
            now = next;
            start();
        }
        return "" + (fault + 1);
    }

    private String start() {
        now.place = 0;
        now.steps = 0;
        begun = now.copy();
        latest = new long[] {0, -1, -1, -1};
        return DONE;
    }

    private String leaps(boolean to) {
        on = to;
        return DONE;
    }

    private String set(int c, int v) {
        if (c < 0 || c > 7 || v < 0 || v > Reference.LIMIT) {
            return ARGUMENT;
        }
        now.values[c] = v;
        return DONE;
    }

    private int instruction(int i, int what) {
        if (begun == null || i < 0 || i >= now.instructions.size()) {
            return -1;
        }
        Reference.Instruction it = now.instructions.get(i);
        return switch (what) {
            case 0 -> "+->.".indexOf(it.sign());
            case 1 -> it.counter();
            case 2 -> it.target();
            default -> -1;
        };
    }

    private int loop(int k, int what) {
        if (k < 0 || k >= now.loops.size()) {
            return -1;
        }
        Reference.Loop it = now.loops.get(k);
        return switch (what) {
            case 0 -> it.head();
            case 1 -> it.end();
            case 2 -> it.drains();
            default -> -1;
        };
    }

    private String run(long moves) {
        if (moves < 0 || moves > 1000) {
            return ARGUMENT;
        }
        for (int i = 0; i < moves && now.state() == 0; i++) {
            long before = now.steps;
            long passes = on ? now.leapUntil(Reference.MOST) : 0;
            if (passes == 0) {
                now.step();
            } else {
                latest = new long[] {latest[0] + 1, now.place, passes, (now.steps - before) / passes};
            }
        }
        return "" + now.state();
    }

    private String plain(long steps) {
        if (steps < 0 || steps > 1000) {
            return ARGUMENT;
        }
        int made = 0;
        while (made < steps && !now.isHalted() && !now.isStuck()) {
            now.step();
            made++;
        }
        return "" + made;
    }

    private String seek(long steps) {
        if (steps < 0 || steps > Reference.MOST) {
            return ARGUMENT;
        }
        Reference r = begun.copy();
        r.budget = BUDGET;
        for (int made = 0; r.steps < steps && !r.isHalted() && !r.isStuck(); made++) {
            if (made == 2000) {
                return UNSUPPORTED;
            }
            if (r.leapUntil(steps) == 0) {
                r.step();
            }
        }
        now = r;
        return r.steps == steps ? "1" : r.isHalted() ? "0" : "2";
    }

    private String change(long k, int c) {
        if (k < 0 || k >= now.loops.size() || c < 0 || c > 7) {
            return INDEX;
        }
        Reference r = now.copy();
        r.steps = 0;
        return r.makePass(now.loops.get((int) k)) ? "" + (r.values[c] - now.values[c]) : UNSUPPORTED;
    }
}
