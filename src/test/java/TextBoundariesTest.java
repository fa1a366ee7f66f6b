/** The sentences under "Terms" that say what a text may be, one by one, and where its fault is. */
public final class TextBoundariesTest {
    private static final String BLANKS = " ".repeat(8);
    private static final String CAPITALS = "ABCDEFGHIJKLMNOPQRSTUVWXYZ";
    private static final String COUNTERS = "abcdefgh";

    private TextBoundariesTest() {
    }

    public static void main(String[] args) {
        atMost120Characters();
        codes32To126();
        oneTo24Instructions();
        semicolonsBetween();
        labelsBefore();
        whatMayStandWhere();
        blanksAnywhere();
        eachNamedLabelStandsOnce();
        letterThatIsALabelAlready();
        firstCharacterOfThe25th();
        endIfMoreMustCome();
        firstNamedThatStandsNowhere();
        theFirstFaultOfSeveral();
        Check.end();
    }

    private static void fault(String text, int want) {
        Check.due("compile() of '" + text + "'", Check.typed(text).compile(), want);
    }

    private static void size(String text, int want) {
        Check.due("size() of '" + text + "'", Check.compiled(text).size(), want);
    }

    /** "THE TEXT is a row of at most 120 characters" */
    private static void atMost120Characters() {
        for (int n = 1; n <= 8; n++) {
            CounterLeaper x = Check.typed(" ".repeat(121 - n));
            int more = n;
            Check.dueThrow(n + " behind " + (121 - n), UnsupportedOperationException.class,
                    () -> x.type(0x2020202020202020L, more));
            Check.due("the text after that", x.wipe(), 121 - n);
            CounterLeaper y = Check.typed(" ".repeat(120 - n));
            Check.due(n + " behind " + (120 - n), y.type(0x2020202020202020L, n), 120);
            Check.due("the text after that", y.wipe(), 120);
        }
        String longest = ".;".repeat(23) + " ".repeat(72) + "+a";
        Check.due("a program of so many characters", longest.length(), 120);
        size(longest, 24);
        fault(" ".repeat(119) + ".", 0);
        fault(" ".repeat(119) + "?", 120);
        fault(" ".repeat(120), 121);
        fault("+".repeat(120), 2);
    }

    /** "characters with the codes 32 .. 126", at each of the eight bytes */
    private static void codes32To126() {
        for (int code = 0; code < 256; code++) {
            for (int i = 0; i < 8; i++) {
                codeAt(code, i);
            }
        }
    }

    private static void codeAt(int code, int i) {
        CounterLeaper x = Check.typed("+a;");
        long characters = 0x2020202020202020L & ~(255L << 8 * i) | (long) code << 8 * i;
        String call = "type(), code " + code + " in byte " + i;
        if (code >= 32 && code <= 126) {
            Check.due(call, x.type(characters, 8), 11);
        } else {
            Check.dueThrow(call, IllegalArgumentException.class, () -> x.type(characters, 8));
            Check.due(call + ": the text stays", x.wipe(), 3);
        }
        if (i > 0) {
            Check.due(call + ", just the bytes below it", Check.typed("+a;").type(characters, i), 3 + i);
        }
    }

    /** "A PROGRAM is read from it: 1 to 24 INSTRUCTIONS" */
    private static void oneTo24Instructions() {
        fault("", 1);
        for (int n = 1; n <= 24; n++) {
            size("+a;".repeat(n), n);
            size("+a;".repeat(n - 1) + ".", n);
        }
        fault("+a;".repeat(24) + "+a", 73);
        fault("+a;".repeat(24) + "+a;", 73);
        fault(".;".repeat(60), 49);
    }

    /** "with ; between (one may stand behind the last)" */
    private static void semicolonsBetween() {
        size(".;.", 2);
        size(".;.;", 2);
        size(".", 1);
        size(".;", 1);
        fault(".;;", 3);
        fault(".; ;", 4);
        fault(".;;.", 3);
        fault("..", 2);
        fault(". .", 3);
        fault("+a+b", 3);
        fault(";.", 1);
        fault(";", 1);
        fault(".;".repeat(24), 0);
        fault(".;".repeat(24) + ";", 49);
    }

    /** "Before an instruction there may be LABELS, each a capital letter and a colon" */
    private static void labelsBefore() {
        String all = String.join(":", CAPITALS.split("")) + ":";
        CounterLeaper x = Check.compiled(".;" + all + ".;>A;-aZ;>M");
        Check.due("26 labels: A", x.instruction(2, 2), 1);
        Check.due("26 labels: Z", x.instruction(3, 2), 1);
        Check.due("26 labels: M", x.instruction(4, 2), 1);
        CounterLeaper y = Check.compiled("A:+a;B:-aD;C:>B;D:.;>A;>B;>C;>D");
        for (int i = 0; i < 4; i++) {
            Check.due("a label before each kind, " + i, y.instruction(4 + i, 2), i);
        }
        for (String letter : CAPITALS.split("")) {
            fault(letter + ":>" + letter, 0);
            fault("-a" + letter + ";" + letter + ":.", 0);
        }
        fault("@:.", 1);
        fault("[:.", 1);
        fault("a:.", 1);
        fault("A;.", 2);
        fault("A.", 2);
        fault("A:B", 4);
        fault("A:B.", 4);
        fault(":.", 1);
        fault(".:", 2);
        fault(".;" + all + "A:.", 55);
        // behind an instruction, or in it, there is none
        fault("+A:a", 2);
        fault("+aA:", 3);
        fault(".A:", 2);
    }

    /** Each code, where each kind of character is due: the character, or the fault at it. */
    private static void whatMayStandWhere() {
        mayStand("", "+->." + CAPITALS);
        mayStand(".;", "+->." + CAPITALS);
        mayStand("+a;", "+->." + CAPITALS);
        mayStand("A:", "+->." + CAPITALS.substring(1));
        mayStand("A", ":");
        mayStand("A:B", ":");
        mayStand("+", COUNTERS);
        mayStand("-", COUNTERS);
        mayStand("-a", CAPITALS);
        mayStand(">", CAPITALS);
        mayStand("A:>", CAPITALS);
        mayStand(".", ";");
        mayStand("+a", ";");
        mayStand("A:-aA", ";");
        mayStand("A:>A", ";");
    }

    private static void mayStand(String before, String allowed) {
        for (char c = 32; c <= 126; c++) {
            int fault = Check.typed(before + c).compile();
            boolean faultThere = fault == before.length() + 1 && !standsNowhere(before, c);
            boolean may = c == ' ' || allowed.indexOf(c) >= 0;
            Check.due("'" + before + c + "', may it stand", faultThere ? 0 : 1, may ? 1 : 0);
        }
    }

    /** A label that is named may stand there, though it is a fault that it stands nowhere. */
    private static boolean standsNowhere(String before, char c) {
        boolean named = before.endsWith(">") || before.endsWith("-a");
        return named && CAPITALS.indexOf(c) >= 0;
    }

    /** "Blanks may stand anywhere" */
    private static void blanksAnywhere() {
        String text = "A:B:-aC;+b;>A;C:.;";
        for (int i = 0; i <= text.length(); i++) {
            String blanks = i % 2 == 0 ? " " : BLANKS;
            String told = text.substring(0, i) + blanks + text.substring(i);
            Check.same("with blanks at " + i, Check.picture(Check.compiled(told)), Check.picture(Check.compiled(text)));
        }
        String apart = String.join(" ", text.split(""));
        Check.same("blanks everywhere", Check.picture(Check.compiled(apart)), Check.picture(Check.compiled(text)));
        // a fault is told by its place among the blanks, too
        fault("  ?", 3);
        fault("  +  i", 6);
        fault("  + a  +", 8);
        fault(" A : . ; A : .", 10);
        fault("  -  a  Z  ;  ", 9);
    }

    /** "Each label that is named stands before one instruction, and no label stands before two (or twice ..)" */
    private static void eachNamedLabelStandsOnce() {
        fault("A:>A", 0);
        fault(">A;A:.", 0);
        fault("A:.;>A", 0);
        fault("A:.", 0);
        fault("-aB;A:.", 3);
        fault(">B;A:.", 2);
        fault("A:.;A:.", 5);
        fault("A:.;.;.;A:.", 9);
        fault("A:A:.", 3);
        fault("A:B:A:.", 5);
        fault("A:B:.;C:B:.", 9);
    }

    /** "where a label may stand, a letter that is a label of some instruction already, whatever comes behind it" */
    private static void letterThatIsALabelAlready() {
        for (String behind : new String[] {"", ":", ":.", ";", "?", " ", "A", ":B:.", "  :  ."}) {
            fault("A:.;A" + behind, 5);
            fault("A:A" + behind, 3);
            fault("A:.;B:A" + behind, 7);
        }
        // a letter that is no label yet may stand there; the fault is behind it
        fault("A:.;B?", 6);
        fault("A:.;B", 6);
        fault("A:.;B;", 6);
        // where a colon must stand, no letter can, and where a label is named, it is none that stands
        fault("AA", 2);
        fault("A A:.", 3);
        fault("A:>A;-aA;>A", 0);
        fault(">A;-aA;A:.;.", 0);
        // named only, it is no label of an instruction
        fault(">A;A:.;A:.", 8);
    }

    /** "of a 25th instruction or its labels: its first character" */
    private static void firstCharacterOfThe25th() {
        String full = "A:.;" + ".;".repeat(23);
        String[] begun = {".", "+a", "-aA", ">A", "B:.", "B:C:.", "B", "B?", "A:.", "+", "+?", "?", ";", ":"};
        for (String behind : begun) {
            fault(full + behind, 51);
            fault(full + "   " + behind, 54);
        }
        fault(full, 0);
        fault(full + "  ", 0);
        // the 24th is still read to its end
        String most = ".;".repeat(23);
        fault(most + "A:B:-a", 53);
        fault(most + "A:B:-aB", 0);
        fault(most + "A:B:-aC", 53);
        fault(most + "A:B:-a?", 53);
        fault(most + "..", 48);
    }

    /** "or at the end of the text if more must come" */
    private static void endIfMoreMustCome() {
        String[] begun = {"", "A", "A:", "A:B", "A:B:", "+", "-", "-a", ">", ".;A", ".;A:", ".;+", ".;-h", ".;>"};
        for (String text : begun) {
            fault(text, text.length() + 1);
            fault(text + "  ", text.length() + 3);
            fault(text + " ".repeat(120 - text.length()), 121);
        }
        for (String text : new String[] {".", "+a", ".;", ".; ", "A:-aA", "A:>A;"}) {
            fault(text, 0);
            fault(text + " ".repeat(120 - text.length()), 0);
        }
    }

    /** "if there is none of these, at the first label that is named, in - or >, and stands nowhere" */
    private static void firstNamedThatStandsNowhere() {
        fault(">Z", 2);
        fault("-aZ", 3);
        fault(">Z;>Y", 2);
        fault("-bY;>Z", 3);
        fault("A:>A;>Z;>Y", 7);
        fault("A:>A;-cZ;-cA;>Y", 8);
        fault("A:-aA;B:-bB;>A;>B;>C", 20);
        fault(">  Z", 4);
        fault(".;".repeat(23) + ">A", 48);
        fault(" ".repeat(118) + ">A", 120);
        fault("A:>B", 4);
    }

    private static void theFirstFaultOfSeveral() {
        fault("??", 1);
        fault("+i;+i", 2);
        // a label that stands nowhere is looked for last
        fault(">Z;?", 4);
        fault(">Z;+", 5);
        fault(">Z;A:.;A:.", 8);
        fault(">Z;" + ".;".repeat(23) + ".", 50);
        fault("A:.;A:.;?", 5);
        fault("?;A:.;A:.", 1);
    }
}
