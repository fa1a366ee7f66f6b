import java.util.ArrayList;
import java.util.List;
import java.util.regex.Matcher;
import java.util.regex.Pattern;

/** The document's words followed one step at a time: slow, and made otherwise than the program. */
final class Reference {
    static final int LIMIT = 1000000;
    static final long MOST = 1000000000000000L;

    private static final String BODY = "(?: *[A-Z] *:)* *(?:\\+ *[a-h]|- *[a-h] *[A-Z]|> *[A-Z]|\\.) *";
    private static final Pattern PROGRAM = Pattern.compile(BODY + "(?:;" + BODY + "){0,23}(?:; *)?");

    /** An instruction: its sign, its counter and where its label leads. */
    record Instruction(char sign, int counter, int target) {
    }

    /** A loop, and for each instruction between head and end whether a drain begins there. */
    record Loop(int head, int end, boolean[] drainAt) {
        int drains() {
            int drains = 0;
            for (boolean begins : drainAt) {
                drains += begins ? 1 : 0;
            }
            return drains;
        }
    }

    /** Thrown when following the words would take too long for a test. */
    static final class TooLong extends RuntimeException {
        private static final long serialVersionUID = 1L;
    }

    final List<Instruction> instructions = new ArrayList<>();
    final List<Loop> loops = new ArrayList<>();
    int[] values = new int[8];
    int place;
    long steps;
    int budget;

    /** Of a text without a fault. */
    Reference(String text) {
        String[] parts = text.replace(" ", "").split(";");
        for (String part : parts) {
            String body = part.substring(part.lastIndexOf(':') + 1);
            char sign = body.charAt(0);
            int counter = sign == '+' || sign == '-' ? body.charAt(1) - 'a' : -1;
            int target = -1;
            for (int i = 0; i < parts.length && (sign == '-' || sign == '>'); i++) {
                if (parts[i].contains(body.charAt(body.length() - 1) + ":")) {
                    target = i;
                }
            }
            instructions.add(new Instruction(sign, counter, target));
        }
        for (int head = 0; head < instructions.size(); head++) {
            for (int end = head + 1; end < instructions.size(); end++) {
                Loop loop = new Loop(head, end, new boolean[end]);
                if (isGo(end, head) && isBody(loop, head)) {
                    loops.add(loop);
                }
            }
        }
    }

    /** The place of a text's fault, or -1: by asking how far some program begins like it. */
    static int fault(String text) {
        for (int i = 0; i < text.length(); i++) {
            if (!canBegin(text.substring(0, i + 1)) || isLabelAgain(text, i)) {
                return i;
            }
        }
        if (!PROGRAM.matcher(text).matches()) {
            return text.length();
        }
        Matcher named = Pattern.compile("(?:- *[a-h]|>) *([A-Z])").matcher(text);
        while (named.find()) {
            if (!Pattern.compile(named.group(1) + " *:").matcher(text).find()) {
                return named.start(1);
            }
        }
        return -1;
    }

    private static boolean canBegin(String start) {
        Matcher m = PROGRAM.matcher(start);
        return m.matches() || m.hitEnd();
    }

    private static boolean isLabelAgain(String text, int i) {
        String before = text.substring(0, i).replace(" ", "");
        boolean mayStand = before.isEmpty() || before.endsWith(";") || before.endsWith(":");
        return mayStand && Character.isUpperCase(text.charAt(i)) && before.contains(text.charAt(i) + ":");
    }

    private boolean isGo(int i, int target) {
        return instructions.get(i).sign() == '>' && instructions.get(i).target() == target;
    }

    /** Whether from i to the loop's end there are just +, - and drains; marks the drains. */
    private boolean isBody(Loop loop, int i) {
        if (i == loop.end()) {
            return true;
        }
        int drain = drainLength(i);
        if (i > loop.head() && drain > 0 && i + drain <= loop.end()) {
            loop.drainAt()[i] = true;
            return isBody(loop, i + drain);
        }
        boolean counts = "+-".indexOf(instructions.get(i).sign()) >= 0;
        return counts && isBody(loop, i + 1);
    }

    private int drainLength(int first) {
        Instruction minus = instructions.get(first);
        if (minus.sign() != '-' || minus.target() <= first + 1 || !isGo(minus.target() - 1, first)) {
            return 0;
        }
        for (Instruction i : instructions.subList(first + 1, minus.target() - 1)) {
            if (i.sign() != '+' || i.counter() == minus.counter()) {
                return 0;
            }
        }
        return minus.target() - first;
    }

    boolean isHalted() {
        return place == instructions.size() || instructions.get(place).sign() == '.';
    }

    boolean isStuck() {
        if (isHalted()) {
            return false;
        }
        Instruction i = instructions.get(place);
        return i.sign() == '+' && values[i.counter()] == LIMIT || steps == MOST;
    }

    void step() {
        if (--budget < 0) {
            throw new TooLong();
        }
        Instruction i = instructions.get(place);
        steps++;
        if (i.sign() == '>' || i.sign() == '-' && values[i.counter()] == 0) {
            place = i.target();
        } else {
            values[i.counter()] += i.sign() == '+' ? 1 : -1;
            place++;
        }
    }

    /** Makes a pass of the loop from its head, step by step; false, and nothing, if it is not full. */
    boolean makePass(Loop loop) {
        int[] valuesBefore = values.clone();
        int placeBefore = place;
        long stepsBefore = steps;
        place = loop.head();
        boolean full = true;
        boolean back = false;
        while (full && !back) {
            boolean atMinus = !isHalted() && instructions.get(place).sign() == '-';
            boolean byLabel = atMinus && values[instructions.get(place).counter()] == 0;
            if (isHalted() || isStuck() || byLabel && !loop.drainAt()[place]) {
                full = false;
            } else {
                back = place == loop.end();
                step();
            }
        }
        if (!full) {
            values = valuesBefore;
            place = placeBefore;
            steps = stepsBefore;
        }
        return full;
    }

    Loop loopHere() {
        for (Loop loop : loops) {
            if (loop.head() == place) {
                return loop;
            }
        }
        return null;
    }

    int state() {
        if (isHalted()) {
            return 1;
        }
        if (isStuck()) {
            return 2;
        }
        Reference next = copy();
        boolean endless = loopHere() != null && next.makePass(loopHere()) && same(next.values, values);
        budget = next.budget;
        return endless ? 3 : 0;
    }

    /** A leap by as many passes as the document says, but no more than there are steps for: how many. */
    long leapUntil(long allSteps) {
        Loop loop = loopHere();
        if (loop == null) {
            return 0;
        }
        long passes = 0;
        int[] first = values.clone();
        boolean more = true;
        while (more) {
            Reference next = copy();
            more = next.makePass(loop) && next.steps <= allSteps;
            budget = next.budget;
            if (more) {
                passes++;
                values = next.values;
                steps = next.steps;
                more = !drainChanged(loop, first);
            }
        }
        return passes;
    }

    private boolean drainChanged(Loop loop, int[] before) {
        for (int i = loop.head(); i < loop.end(); i++) {
            int c = instructions.get(i).counter();
            if (loop.drainAt()[i] && values[c] != before[c]) {
                return true;
            }
        }
        return false;
    }

    private static boolean same(int[] some, int[] others) {
        return java.util.Arrays.equals(some, others);
    }

    Reference copy() {
        Reference r = new Reference(this);
        r.values = values.clone();
        r.place = place;
        r.steps = steps;
        r.budget = budget;
        return r;
    }

    private Reference(Reference other) {
        instructions.addAll(other.instructions);
        loops.addAll(other.loops);
    }
}
