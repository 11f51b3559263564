import java.util.NoSuchElementException;

/** What the tests are made of: calls on a desk, and the answers that are due. */
abstract class Check {
    /** Stands for the exception that the document names for a call. */
    static final long THROWN = Long.MIN_VALUE;
    /** Stands for any other exception, one of a class below the due one too. */
    static final long THROWN_WRONG = Long.MIN_VALUE + 1;

    private static final int MOST_ROWS = 60;
    private static String sentence = "";
    private static int made = 0;
    private static int wrong = 0;

    /** The document's words that the checks from here on are for. */
    static void sentence(String words) {
        sentence = words;
    }

    static void due(String what, boolean got, boolean want) {
        due(what, got ? 1 : 0, want ? 1 : 0);
    }

    static void due(String what, long got, long want) {
        made++;
        if (got != want) {
            wrong++;
            if (wrong <= MOST_ROWS) {
                System.out.println("[" + sentence + "] " + what + ": answered " + named(got) + ", due is " + named(want));
            }
        }
    }

    private static String named(long answer) {
        return answer == THROWN ? "the exception" : answer == THROWN_WRONG ? "a wrong exception" : String.valueOf(answer);
    }

    /** Ends the program, with exit code 1 if an answer was wrong. */
    static void finish() {
        System.out.println(made + " answers, " + wrong + " of them wrong");
        System.exit(wrong == 0 && made > 0 ? 0 : 1);
    }

    // Texts

    static long packed(String text) {
        long word = 0;
        for (char c : text.toCharArray()) {
            word = word << 8 | c;
        }
        return word;
    }

    static void write(AsmDesk desk, String text) {
        for (int i = 0; i < text.length(); i += 8) {
            String part = text.substring(i, Math.min(i + 8, text.length()));
            due("type '" + part + "'", desk.type(packed(part), part.length()), true);
        }
    }

    static AsmDesk typed(String text) {
        AsmDesk desk = new AsmDesk();
        write(desk, text);
        return desk;
    }

    /** A desk that shows what a good text tells. */
    static AsmDesk showing(String text) {
        AsmDesk desk = typed(text);
        due("'" + text + "' is good", assembled(desk) >= 0, true);
        return desk;
    }

    static void good(String text, int told) {
        goodDue(typed(text), text, told);
    }

    static void goodDue(AsmDesk desk, String text, int told) {
        due("'" + text + "'", assembled(desk), told);
        due("'" + text + "' kind", desk.fault(0), 0);
        due("'" + text + "' place", desk.fault(1), 0);
    }

    static void bad(String text, int kind, int place) {
        badDue(typed(text), text, kind, place);
    }

    static void badDue(AsmDesk desk, String text, int kind, int place) {
        due("'" + text + "'", assembled(desk), THROWN);
        due("'" + text + "' kind", desk.fault(0), kind);
        due("'" + text + "' place", desk.fault(1), place);
    }

    static void laidAt(String text, int address, int word) {
        due("'" + text + "' at " + address, word(showing(text), address), word);
    }

    // Calls that may throw

    static long assembled(AsmDesk desk) {
        try {
            return desk.assemble();
        } catch (RuntimeException e) {
            return thrown(e, IllegalArgumentException.class);
        }
    }

    static long word(AsmDesk desk, int k) {
        try {
            return desk.word(k);
        } catch (RuntimeException e) {
            return thrown(e, IndexOutOfBoundsException.class);
        }
    }

    static long start(AsmDesk desk, int core) {
        try {
            return desk.start(core);
        } catch (RuntimeException e) {
            return thrown(e, IndexOutOfBoundsException.class);
        }
    }

    static long label(AsmDesk desk, String name) {
        return label(desk, packed(name));
    }

    static long label(AsmDesk desk, long name) {
        try {
            return desk.label(name);
        } catch (RuntimeException e) {
            return thrown(e, NoSuchElementException.class);
        }
    }

    /** The machine's own exceptions are of classes below the ones that the document names. */
    private static long thrown(RuntimeException e, Class<?> due) {
        return e.getClass() == due ? THROWN : THROWN_WRONG;
    }

    // Instructions

    static int op(int number) {
        return number << 24;
    }

    static int d(int register) {
        return register << 20;
    }

    static int a(int register) {
        return register << 16;
    }

    static int b(int register) {
        return register << 12;
    }
}
