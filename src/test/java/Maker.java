import java.util.Random;

/** Makes up programs and texts, the same in every run of a test. */
final class Maker {
    private static final int MOST_SIZE = 24;

    private final Random chance;
    private StringBuilder text;
    private StringBuilder heads;
    private char label;
    private int size;

    Maker(long seed) {
        chance = new Random(seed);
    }

    int below(int n) {
        return chance.nextInt(n);
    }

    private char oneOf(CharSequence characters) {
        return characters.charAt(below(characters.length()));
    }

    private char anyCounter() {
        return oneOf("abcd");
    }

    /** Characters that may stand in a program, in no order. */
    String anyText() {
        StringBuilder s = new StringBuilder();
        int length = below(14);
        while (s.length() < length) {
            s.append(oneOf("++--aabhiABZ:::;;;>>.. ?"));
        }
        return s.toString();
    }

    /** The text with some characters taken out, changed or put in, cut to what can be typed. */
    String spoilt(String program) {
        StringBuilder s = new StringBuilder(program);
        for (int times = below(4); times > 0 && s.length() > 0; times--) {
            int i = below(s.length());
            switch (below(3)) {
                case 0 -> s.deleteCharAt(i);
                case 1 -> s.setCharAt(i, oneOf("+-abhiABZ:;>. "));
                default -> s.insert(i, oneOf("+-abAB:;>.  "));
            }
        }
        return s.length() > 120 ? s.substring(0, 120) : s.toString();
    }

    /** Counts, drains and jumps with no plan, or a loop with drains in it; some have a fault. */
    String anyProgram() {
        text = new StringBuilder();
        heads = new StringBuilder();
        label = 'A';
        size = 0;
        if (below(2) == 0) {
            anyPieces();
        } else {
            oneLoop();
        }
        return text.append("Z:.").toString();
    }

    private void anyPieces() {
        for (int pieces = 1 + below(8); pieces > 0 && hasRoom(); pieces--) {
            switch (below(7)) {
                case 0, 1 -> head();
                case 2 -> count();
                case 3, 4 -> drain();
                case 5 -> goBack();
                default -> add(below(3) == 0 ? "." : "+" + anyCounter());
            }
        }
        goBack();
    }

    private void oneLoop() {
        if (below(3) == 0) {
            count();
        }
        head();
        for (int pieces = 1 + below(4); pieces > 0 && hasRoom(); pieces--) {
            if (below(3) == 0) {
                count();
            } else {
                drain();
            }
        }
        goBack();
    }

    private boolean hasRoom() {
        return size < MOST_SIZE - 6 && label < 'T';
    }

    private void add(String instruction) {
        text.append(instruction).append(';');
        size++;
    }

    private void head() {
        heads.append(label);
        text.append(label++).append(':');
        count();
    }

    private void count() {
        char away = below(5) == 0 ? 'A' : 'Z';
        add(below(2) == 0 ? "+" + anyCounter() : "-" + anyCounter() + away);
    }

    /** A drain, if no + is of its own counter; the label behind it waits for the next instruction. */
    private void drain() {
        char first = label++;
        char behind = label++;
        text.append(first).append(':');
        add("-" + anyCounter() + behind);
        for (int pluses = below(3); pluses > 0; pluses--) {
            add("+" + anyCounter());
        }
        add(">" + first);
        text.append(behind).append(':');
    }

    private void goBack() {
        add(">" + (heads.length() > 0 ? oneOf(heads) : 'Z'));
    }

    /** A value by which loops soon come to an end: small, or near the limit. */
    int anyValue() {
        return switch (below(6)) {
            case 0 -> 0;
            case 1 -> Reference.LIMIT - below(8);
            case 2 -> below(100);
            default -> below(9);
        };
    }
}
