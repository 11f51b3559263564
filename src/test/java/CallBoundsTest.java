import java.util.ArrayList;
import java.util.List;

/** The bounds of the calls, promise by promise: every sentence that names one, on both of its sides. */
public final class CallBoundsTest extends Check {
    private static final int CALLS = 512;
    private static final int TAPE = 480;
    private static final int[] ENDS = {Integer.MIN_VALUE, Integer.MIN_VALUE + 1, Integer.MAX_VALUE - 1, Integer.MAX_VALUE};
    private static final String SHOWN = "word 7;a:core 1;word 8;org 255;word 9;z:;";
    // One of each kind, each with words, starts and labels in front of the fault.
    private static final String[] FAULTY = {"b:word 5;core 1;org 9;word 6;core 2;$", "b:word 5;core 1;org 9;word 6;core 2;word q;",
        "b:word 5;core 1;org 9;word 6;core 2;b:;", "b:word 5;core 1;org 9;word 6;core 2;core 4;", "b:word 5;core 1;org 255;word 6;halt;"};

    public static void main(String[] args) {
        lastOf512Types();
        lastOf512Assembles();
        fullTapesWithin512Calls();
        faultsWithin512Calls();
        newObjectIsEmpty();
        objectsAreApart();
        typeCounts();
        typeTakesTheLowestBytes();
        typeTakesTheHighestFirst();
        typeTakesBytesFrom32To126();
        typeTakesUpTo480();
        refusedTypeChangesNothing();
        assembleEmptiesTheTape();
        assembleAnew();
        assembleCounts();
        refusedAssembleChangesOnlyTheFault();
        refusedAssembleLeavesNothingBehind();
        faultWhat();
        faultIsOfTheLatestAssemble();
        faultPlaces();
        wordAddresses();
        startCores();
        labelsCount();
        labelNames();
        labelIsNotFound();
        toldIsOfTheLatestGoodText();
        finish();
    }

    // What it is

    private static void lastOf512Types() {
        sentence("An object is used for at most 512 calls");
        AsmDesk desk = new AsmDesk();
        for (int call = 1; call <= CALLS; call++) {
            due("type() as call " + call, desk.type(' ', 1), call <= TAPE);
        }
    }

    private static void lastOf512Assembles() {
        AsmDesk desk = showing("a:word 7;");
        for (int call = 4; call < CALLS; call += 2) {
            due("type() as call " + call, desk.type(call % 4 == 0 ? '$' : ';', 1), true);
            due("assemble() as call " + (call + 1), assembled(desk), call % 4 == 0 ? THROWN : 0);
        }
        due("call 512", desk.fault(0), 0);
    }

    private static void fullTapesWithin512Calls() {
        AsmDesk desk = new AsmDesk();
        String halts = "halt;".repeat(95);
        for (int round = 0; round < 8; round++) {
            write(desk, halts + "x" + round + ":; ");
            due("full tape " + round, assembled(desk), 95);
        }
        for (int call = 8 * 61 + 1; call < CALLS; call++) {
            due("the last full tape's label as call " + call, label(desk, "x7"), 95);
        }
        due("call 512", label(desk, "x6"), THROWN);
    }

    private static void faultsWithin512Calls() {
        AsmDesk desk = showing("x:word 7;");
        int calls = 3;
        for (int i = 0; calls < CALLS - 5; i++) {
            due("type", desk.type(packed(i % 2 == 0 ? "$" : "word q;"), i % 2 == 0 ? 1 : 7), true);
            due("assemble", assembled(desk), THROWN);
            due("kind", desk.fault(0), i % 2 == 0 ? 1 : 2);
            due("place", desk.fault(1), i % 2 == 0 ? 0 : 5);
            due("the good text's word", word(desk, 0), 7);
            calls += 5;
        }
        due("the good text's label", label(desk, "x"), 0);
    }

    // Promise 1

    private static void newObjectIsEmpty() {
        sentence("A new object: All words 0, no LABELS");
        AsmDesk desk = new AsmDesk();
        for (int k = 0; k < 256; k++) {
            due("word " + k, word(desk, k), 0);
        }
        for (int core = 0; core < 4; core++) {
            due("start " + core, start(desk, core), 0);
        }
        due("labels", desk.labels(), 0);
        due("label", label(desk, "a"), THROWN);
        due("label 0", label(desk, 0), THROWN);
        due("told", desk.told(), 0);
        due("kind", desk.fault(0), 0);
        due("place", desk.fault(1), 0);
        due("empty tape", assembled(desk), 0);
    }

    private static void objectsAreApart() {
        AsmDesk one = showing("a:word 5;core 1;");
        AsmDesk other = typed("$");
        due("told", other.told(), 0);
        due("word", word(other, 0), 0);
        due("labels", other.labels(), 0);
        due("the other's tape", assembled(one), 0);
        due("the other's fault", one.fault(0), 0);
        badDue(other, "$", 1, 0);
    }

    // Promise 2

    private static void typeCounts() {
        sentence("type: n (1 .. 8); false for another n");
        AsmDesk desk = new AsmDesk();
        for (int n = -20; n <= 20; n++) {
            due("n " + n, desk.type(0x2020202020202020L, n), n >= 1 && n <= 8);
        }
        for (int n : ENDS) {
            due("n " + n, desk.type(0x2020202020202020L, n), false);
        }
        for (int bit = 4; bit < 32; bit++) {
            due("n 8 and 2^" + bit, desk.type(0x2020202020202020L, 8 | 1 << bit), false);
            due("n 1 and 2^" + bit, desk.type(0x2020202020202020L, 1 | 1 << bit), false);
        }
    }

    private static void typeTakesTheLowestBytes() {
        sentence("type: The n lowest bytes of word");
        for (int n = 1; n <= 8; n++) {
            long blanks = 0x2020202020202020L >>> 8 * (8 - n);
            for (int above : new int[] {0, 31, '$', 127, 255}) {
                long word = n == 8 ? blanks : blanks | ((long) above * 0x0101010101010101L) << 8 * n;
                AsmDesk desk = new AsmDesk();
                due("n " + n + " below bytes " + above, desk.type(word, n), true);
                due("'$' behind them", desk.type('$', 1), true);
                badDue(desk, n + " blanks and $", 1, n);
            }
        }
    }

    private static void typeTakesTheHighestFirst() {
        sentence("type: the highest first");
        for (int n = 1; n <= 8; n++) {
            for (int at = 0; at < n; at++) {
                AsmDesk desk = new AsmDesk();
                String text = " ".repeat(at) + "$" + " ".repeat(n - 1 - at);
                due("'" + text + "'", desk.type(packed(text), n), true);
                badDue(desk, text, 1, at);
            }
        }
        AsmDesk desk = new AsmDesk();
        due("eight", desk.type(packed("ab12:wor"), 8), true);
        due("seven", desk.type(packed("d -1234"), 7), true);
        due("one", desk.type(packed(";"), 1), true);
        due("told", assembled(desk), 1);
        due("word", word(desk, 0), -1234);
        due("label", label(desk, "ab12"), 0);
    }

    private static void typeTakesBytesFrom32To126() {
        sentence("type: false for a byte that is not 32 .. 126");
        for (int c = 0; c < 256; c++) {
            boolean fine = c >= 32 && c <= 126;
            AsmDesk desk = new AsmDesk();
            for (int n = 1; n <= 8; n++) {
                for (int at = 0; at < n; at++) {
                    long others = (0x2020202020202020L >>> 8 * (8 - n)) & ~(255L << 8 * at);
                    due("byte " + c + " as byte " + at + " of " + n, desk.type(others | (long) c << 8 * at, n), fine);
                }
            }
            if (!fine) {
                write(desk, "$");
                badDue(desk, "$ behind refused bytes", 1, 0);
            }
        }
    }

    private static void typeTakesUpTo480() {
        sentence("type: false if it would have more than 480");
        for (int n = 1; n <= 8; n++) {
            for (int more = 0; more <= 8; more++) {
                int before = TAPE - n + more;
                if (before <= TAPE) {
                    AsmDesk desk = typed(" ".repeat(before));
                    String text = "$".repeat(n);
                    due(n + " on a tape of " + before, desk.type(packed(text), n), more == 0);
                    badOrEmpty(desk, more == 0, before);
                }
            }
        }
        AsmDesk desk = typed(" ".repeat(TAPE));
        due("one on a full tape", desk.type(' ', 1), false);
        due("eight on a full tape", desk.type(packed("        "), 8), false);
        due("the full tape", assembled(desk), 0);
        write(desk, " ".repeat(TAPE - 1) + ";");
        due("room for 480 again", assembled(desk), 0);
        write(desk, " ".repeat(TAPE - 1) + "$");
        badDue(desk, "480 with a fault", 1, TAPE - 1);
        write(desk, "halt;".repeat(TAPE / 5));
        due("room for 480 behind a fault", assembled(desk), TAPE / 5);
    }

    private static void badOrEmpty(AsmDesk desk, boolean bad, int place) {
        if (bad) {
            badDue(desk, "a tape with $ at " + place, 1, place);
        } else {
            goodDue(desk, "a tape of blanks", 0);
        }
    }

    private static void refusedTypeChangesNothing() {
        sentence("type: false, changing nothing");
        AsmDesk desk = showing(SHOWN);
        due("the first part", desk.type(packed("b:wor"), 5), true);
        due("n 0", desk.type(packed("x"), 0), false);
        due("n 9", desk.type(packed("xxxxxxxx"), 9), false);
        due("n -1", desk.type(packed("x"), -1), false);
        due("highest byte 31", desk.type(packed("\u001fxx"), 3), false);
        due("lowest byte 31", desk.type(packed("xx\u001f"), 3), false);
        due("lowest byte 127", desk.type(packed("xxxxxxx\u007f"), 8), false);
        shows(desk, "refused type()");
        due("kind", desk.fault(0), 0);
        due("the last part", desk.type(packed("d 5;"), 4), true);
        due("told", assembled(desk), 1);
        due("word", word(desk, 0), 5);
        due("label", label(desk, "b"), 0);
        refusedAtTheEndChangesNothing();
    }

    private static void refusedAtTheEndChangesNothing() {
        AsmDesk desk = typed(" ".repeat(TAPE - 7) + "word 5");
        due("two too many", desk.type(packed("66;"), 3), false);
        due("one too many", desk.type(packed("6;"), 2), false);
        due("the last one", desk.type(packed(";"), 1), true);
        due("told", assembled(desk), 1);
        due("word", word(desk, 0), 5);
        write(desk, "$");
        badDue(desk, "$", 1, 0);
        due("refused", desk.type(' ', 0), false);
        due("the kind stays", desk.fault(0), 1);
        due("the place stays", desk.fault(1), 0);
    }

    // Promise 3

    private static void assembleEmptiesTheTape() {
        sentence("assemble: The TAPE (which is empty then in any case)");
        AsmDesk desk = showing("halt;");
        goodDue(desk, "", 0);
        for (String text : FAULTY) {
            write(desk, text);
            due("'" + text + "'", assembled(desk), THROWN);
            goodDue(desk, "", 0);
        }
        write(desk, "foo");
        badDue(desk, "foo", 1, 0);
        write(desk, ":;");
        badDue(desk, ":;", 1, 0);
    }

    private static void assembleAnew() {
        sentence("assemble: is assembled anew");
        AsmDesk desk = showing("a:b:word 1;word 2;core 3;org 255;word 3;");
        goodDue(desk, "", 0);
        for (int k : new int[] {0, 1, 255}) {
            due("word " + k, word(desk, k), 0);
        }
        due("start", start(desk, 3), 0);
        due("labels", desk.labels(), 0);
        due("a", label(desk, "a"), THROWN);
        write(desk, "a:word 4;");
        goodDue(desk, "a:word 4;", 1);
        due("the next address is 0 again", word(desk, 0), 4);
        write(desk, "word a;");
        badDue(desk, "word a; behind a:", 2, 5);
        write(desk, "a:;b:;");
        goodDue(desk, "a:;b:;", 0);
    }

    private static void assembleCounts() {
        sentence("assemble: how many INSTRUCTIONS and words it told");
        good("", 0);
        good(" ", 0);
        good(";", 0);
        good("a:;", 0);
        good("org 255;core 3;", 0);
        good("halt;", 1);
        good("word 0;", 1);
        good("a:halt;org 7;fence;core 1;word 1;", 3);
        good("halt;org 0;halt;", 2);
        for (int n : new int[] {1, 2, 95, 96}) {
            AsmDesk desk = typed("halt;".repeat(n));
            goodDue(desk, n + " halts", n);
            due(n + " halts, told", desk.told(), n);
        }
    }

    private static void refusedAssembleChangesOnlyTheFault() {
        sentence("assemble: it has a fault (all but fault() stays as it is)");
        AsmDesk fresh = new AsmDesk();
        for (String text : FAULTY) {
            write(fresh, text);
            due("'" + text + "'", assembled(fresh), THROWN);
            due("new: told", fresh.told(), 0);
            due("new: word 0", word(fresh, 0), 0);
            due("new: start 2", start(fresh, 2), 0);
            due("new: labels", fresh.labels(), 0);
        }
        AsmDesk desk = showing(SHOWN);
        for (String text : FAULTY) {
            write(desk, text);
            due("'" + text + "'", assembled(desk), THROWN);
            due("a fault is told", desk.fault(0) != 0, true);
            shows(desk, text);
        }
    }

    /** That a desk shows the text SHOWN still. */
    private static void shows(AsmDesk desk, String behind) {
        int[] words = {7, 8, 0};
        for (int k = 0; k < words.length; k++) {
            due(behind + ": word " + k, word(desk, k), words[k]);
        }
        due(behind + ": word 9", word(desk, 9), 0);
        due(behind + ": word 255", word(desk, 255), 9);
        int[] starts = {0, 1, 0, 0};
        for (int core = 0; core < starts.length; core++) {
            due(behind + ": start " + core, start(desk, core), starts[core]);
        }
        due(behind + ": labels", desk.labels(), 2);
        due(behind + ": a", label(desk, "a"), 1);
        due(behind + ": z", label(desk, "z"), 256);
        due(behind + ": b", label(desk, "b"), THROWN);
        due(behind + ": told", desk.told(), 3);
    }

    private static void refusedAssembleLeavesNothingBehind() {
        for (String text : FAULTY) {
            AsmDesk desk = showing(SHOWN);
            write(desk, text);
            due("'" + text + "'", assembled(desk), THROWN);
            write(desk, "org 4;word 3;");
            goodDue(desk, "behind '" + text + "'", 1);
            for (int k : new int[] {0, 1, 9, 255}) {
                due("word " + k, word(desk, k), 0);
            }
            due("word 4", word(desk, 4), 3);
            due("start 1", start(desk, 1), 0);
            due("start 2", start(desk, 2), 0);
            due("labels", desk.labels(), 0);
            due("b", label(desk, "b"), THROWN);
        }
    }

    // Promise 4

    private static void faultWhat() {
        sentence("fault: what 0, 1; NONE for another what");
        due("NONE", AsmDesk.NONE, -1);
        for (AsmDesk desk : new AsmDesk[] {new AsmDesk(), showing(SHOWN), faulty()}) {
            for (int what = -5; what <= 5; what++) {
                due("fault(" + what + ") is NONE", desk.fault(what) == -1, what != 0 && what != 1);
            }
            for (int what : ENDS) {
                due("fault(" + what + ")", desk.fault(what), -1);
            }
            for (int bit = 1; bit < 32; bit++) {
                due("fault(2^" + bit + ")", desk.fault(1 << bit), -1);
                due("fault(2^" + bit + " + 1)", desk.fault((1 << bit) + 1), -1);
            }
        }
        due("kind", faulty().fault(0), 3);
        due("place", faulty().fault(1), 6);
    }

    private static AsmDesk faulty() {
        AsmDesk desk = typed(" core 4;");
        due("a fault", assembled(desk), THROWN);
        return desk;
    }

    private static void faultIsOfTheLatestAssemble() {
        sentence("fault: The fault of the latest assemble(); 0 none");
        AsmDesk desk = faulty();
        write(desk, "word q;");
        due("typing leaves it", desk.fault(0), 3);
        due("word(256)", word(desk, 256), THROWN);
        due("start(4)", start(desk, 4), THROWN);
        due("label(0)", label(desk, 0), THROWN);
        due("refused calls leave the kind", desk.fault(0), 3);
        due("refused calls leave the place", desk.fault(1), 6);
        badDue(desk, "word q;", 2, 5);
        write(desk, "halt;");
        goodDue(desk, "halt;", 1);
        write(desk, "  ~");
        badDue(desk, "  ~", 1, 2);
        goodDue(desk, "", 0);
    }

    private static void faultPlaces() {
        sentence("fault: 1: its place");
        for (int place : new int[] {0, 1, 7, 8, 127, 128, 255, 256, 257, TAPE - 1}) {
            bad(" ".repeat(place) + "$", 1, place);
        }
        for (int length : new int[] {4, 5, 255, 256, TAPE - 1, TAPE}) {
            bad(" ".repeat(length - 4) + "halt", 1, length);
        }
        bad("; ".repeat(236) + "word q;", 2, 477);
        bad(";".repeat(473) + "core 4;", 3, 478);
    }

    // Promise 5

    private static void wordAddresses() {
        sentence("word: The word at an address (0 where none was told); there is no such address");
        AsmDesk desk = showing("word 1;word 2;org 254;word -3;word 4;");
        due("word 0", word(desk, 0), 1);
        due("word 1", word(desk, 1), 2);
        for (int k = 2; k < 254; k++) {
            due("word " + k, word(desk, k), 0);
        }
        due("word 254", word(desk, 254), -3);
        due("word 255", word(desk, 255), 4);
        for (int k : new int[] {-257, -256, -255, -2, -1, 256, 257, 511, 512, 1 << 16, 1 << 30}) {
            due("word " + k, word(desk, k), THROWN);
        }
        for (int k : ENDS) {
            due("word " + k, word(desk, k), THROWN);
        }
        due("told is as it was", desk.told(), 4);
        due("word 0 is as it was", word(desk, 0), 1);
    }

    // Promise 6

    private static void startCores() {
        sentence("start: Where a core (0 .. 3) begins; there is no such core");
        AsmDesk desk = showing("org 10;core 0;org 20;core 1;org 30;core 2;org 255;core 3;");
        int[] starts = {10, 20, 30, 255};
        for (int core = 0; core < 4; core++) {
            due("start " + core, start(desk, core), starts[core]);
        }
        for (int core : new int[] {-256, -4, -3, -2, -1, 4, 5, 7, 8, 255, 256, 257, 1 << 16}) {
            due("start " + core, start(desk, core), THROWN);
        }
        for (int core : ENDS) {
            due("start " + core, start(desk, core), THROWN);
        }
        due("start 0 is as it was", start(desk, 0), 10);
    }

    // Promise 7

    private static void labelsCount() {
        sentence("labels: How many LABELS there are");
        due("none", showing("halt;").labels(), 0);
        due("one", showing("a:;").labels(), 1);
        due("two of one address", showing("a:b:;").labels(), 2);
        due("used twice is one", showing("a:word a;word a;").labels(), 1);
        due("behind its use", showing("word a;a:;").labels(), 1);
        List<String> names = shortNames();
        for (int n : new int[] {1, 26, 27, 100, names.size()}) {
            AsmDesk desk = showing(String.join(":", names.subList(0, n)) + ":;");
            due(n + " labels", desk.labels(), n);
            due("the last of " + n, label(desk, names.get(n - 1)), 0);
            due("one more than " + n, label(desk, "zz9"), THROWN);
            due("a new text", assembled(desk), 0);
            due("no labels", desk.labels(), 0);
        }
        String full = String.join(":", names) + ":;";
        due("the tape takes no label more", full.length() + "zz:".length() > TAPE, true);
        String doubled = String.join(":", names.subList(0, names.size() - 1)) + ":a:;";
        bad(doubled, 2, doubled.length() - 3);
    }

    /** As many names as one tape can tell as labels of one statement, the shortest first. */
    private static List<String> shortNames() {
        List<String> names = new ArrayList<>();
        int left = TAPE - 1;
        for (char c = 'a'; c <= 'z'; c++) {
            names.add(String.valueOf(c));
            left -= 2;
        }
        for (int i = 0; left >= 3; i++) {
            names.add("" + (char) ('a' + i / 10) + i % 10);
            left -= 3;
        }
        return names;
    }

    // Promise 8

    private static void labelNames() {
        sentence("label: its letters are the lowest bytes of name, the last one lowest");
        AsmDesk desk = showing("a:halt;ab:halt;abc:halt;abcd:halt;abcde:halt;abcdef:halt;z00000:halt;zzzzzz:halt;zz9:;");
        String[] names = {"a", "ab", "abc", "abcd", "abcde", "abcdef", "z00000", "zzzzzz", "zz9"};
        for (int i = 0; i < names.length; i++) {
            due(names[i], label(desk, names[i]), i);
        }
        due("'a' as a number", label(desk, 0x61L), 0);
        due("'ab' as a number", label(desk, 0x6162L), 1);
        due("'abcdef' as a number", label(desk, 0x616263646566L), 5);
        AsmDesk ends = showing("zero:org 255;last:halt;end:;");
        due("at 0", label(ends, "zero"), 0);
        due("at 255", label(ends, "last"), 255);
        due("at 256", label(ends, "end"), 256);
        AsmDesk alike = showing("aacdef:halt;bbcdef:halt;cdef:halt;");
        due("aacdef", label(alike, "aacdef"), 0);
        due("bbcdef, with the same four letters last", label(alike, "bbcdef"), 1);
        due("cdef", label(alike, "cdef"), 2);
        due("abcdef", label(alike, "abcdef"), THROWN);
    }

    private static void labelIsNotFound() {
        sentence("label: there is none such");
        AsmDesk desk = showing("abc:halt;f:word f;halt:;");
        for (String name : new String[] {"a", "ab", "bc", "c", "cba", "abcd", "abc0", "ABC", "F", "word", "q", " ", "f "}) {
            due("'" + name + "'", label(desk, name), THROWN);
        }
        due("'halt' is one", label(desk, "halt"), 2);
        for (long name : new long[] {0, 1, -1, 0x66_00L, Long.MIN_VALUE, Long.MAX_VALUE, Long.MIN_VALUE | 'f'}) {
            due("label(" + name + ")", label(desk, name), THROWN);
        }
        for (int bit = 8; bit < 64; bit++) {
            due("'f' and 2^" + bit, label(desk, 'f' | 1L << bit), THROWN);
        }
        due("labels are as they were", desk.labels(), 3);
        due("'f' is as it was", label(desk, "f"), 1);
        AsmDesk none = showing("halt;");
        due("a text without labels", label(none, "a"), THROWN);
        due("a text without labels, 0", label(none, 0), THROWN);
    }

    // Promise 9

    private static void toldIsOfTheLatestGoodText() {
        sentence("told: How many INSTRUCTIONS and words the latest good TEXT told");
        AsmDesk desk = new AsmDesk();
        due("new", desk.told(), 0);
        write(desk, "halt;word 1;");
        due("typed, not assembled", desk.told(), 0);
        due("assembled", assembled(desk), 2);
        due("assembled", desk.told(), 2);
        for (String text : FAULTY) {
            write(desk, text);
            due("'" + text + "'", assembled(desk), THROWN);
            due("behind '" + text + "'", desk.told(), 2);
        }
        write(desk, "org 0;fence;org 0;fence;org 0;fence;");
        due("three at one address", assembled(desk), 3);
        due("three at one address", desk.told(), 3);
        due("an empty text", assembled(desk), 0);
        due("an empty text", desk.told(), 0);
    }
}
