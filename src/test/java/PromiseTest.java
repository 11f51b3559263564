/** Every promise of the document by hand-written cases: ordinary inputs, edges, wrong inputs. */
public final class PromiseTest extends Check {
    public static void main(String[] args) {
        newObject();
        type();
        typeToTheLimit();
        assemble();
        assembleAnew();
        faultsLeaveTheRest();
        tokens();
        syntaxFaults();
        labelFaults();
        rangeFaults();
        leastPlaceOfFaults();
        fault();
        instructions();
        values();
        addresses();
        word();
        start();
        labels();
        label();
        told();
        finish();
    }

    // Promise 1

    private static void newObject() {
        AsmDesk desk = new AsmDesk();
        for (int k = 0; k < 256; k++) {
            due("new: word " + k, desk.word(k), 0);
        }
        for (int core = 0; core < 4; core++) {
            due("new: start " + core, desk.start(core), 0);
        }
        due("new: labels", desk.labels(), 0);
        due("new: told", desk.told(), 0);
        due("new: fault kind", desk.fault(0), 0);
        due("new: fault place", desk.fault(1), 0);
        due("new: empty tape", assembled(desk), 0);
        due("NONE", AsmDesk.NONE, -1);
        write(desk, "halt;");
        due("objects are apart", assembled(new AsmDesk()), 0);
    }

    // Promise 2

    private static void type() {
        AsmDesk desk = new AsmDesk();
        due("n 0", desk.type(0x3B, 0), false);
        due("n 9", desk.type(0x3B3B3B3B3B3B3B3BL, 9), false);
        due("n -1", desk.type(0x3B, -1), false);
        due("n least", desk.type(0x3B, Integer.MIN_VALUE), false);
        due("n most", desk.type(0x3B, Integer.MAX_VALUE), false);
        due("byte 31", desk.type(31, 1), false);
        due("byte 127", desk.type(127, 1), false);
        due("byte 128", desk.type(128, 1), false);
        due("byte 255", desk.type(-1, 1), false);
        due("byte 0 among good ones", desk.type(0x3B003BL, 3), false);
        due("lowest byte bad", desk.type(0x3B3B1FL, 3), false);
        due("highest byte bad", desk.type(0x7F3B3B3B3B3B3B3BL, 8), false);
        due("nothing was typed", assembled(desk), 0);
        due("bytes above n are free", desk.type(0xFF00_0000_0000_003BL, 1), true);
        due("byte 32", desk.type(32, 1), true);
        due("byte 126", desk.type(126, 1), true);
        badDue(desk, "; ~", 1, 2);
        due("highest first", desk.type(0x68616C743BL, 5), true);
        due("halt;", assembled(desk), 1);
        due("eight", desk.type(0x776F72642033333BL, 8), true);
        due("word 33;", assembled(desk), 1);
        due("word 33;", desk.word(0), 33);
        due("half of it", desk.type(0x68616CL, 3), true);
        due("bad between", desk.type(0x68001CL, 3), false);
        due("rest", desk.type(0x743BL, 2), true);
        due("typed in two", assembled(desk), 1);
    }

    private static void typeToTheLimit() {
        AsmDesk desk = new AsmDesk();
        write(desk, " ".repeat(475));
        due("beyond 480", desk.type(0x68616C743B3BL, 6), false);
        due("480", desk.type(0x68616C743BL, 5), true);
        due("481", desk.type(0x3B, 1), false);
        due("full tape", assembled(desk), 1);
        due("after assemble there is room", desk.type(0x20, 1), true);
        assembled(desk);
        write(desk, ";".repeat(480));
        due("480 statements", assembled(desk), 0);
        write(desk, " ".repeat(479) + "$");
        badDue(desk, "last character", 1, 479);
        write(desk, " ".repeat(476) + "halt");
        badDue(desk, "ends at 480", 1, 480);
    }

    // Promise 3

    private static void assemble() {
        good("", 0);
        good("    ", 0);
        good(";", 0);
        good("x:;", 0);
        good("x:y:z:;", 0);
        good("halt;", 1);
        good("halt;halt;", 2);
        good("org 5;core 1;", 0);
        good("word 1;org 0;word 2;", 2);
        good(" halt ; x : y : word - 1 ; lw r1 , 5 ( r2 ) ; ", 3);
    }

    private static void assembleAnew() {
        AsmDesk desk = new AsmDesk();
        write(desk, "a:word 1;word 2;core 3;b:;");
        due("first", assembled(desk), 2);
        due("tape is empty", assembled(desk), 0);
        due("words gone", desk.word(0), 0);
        due("words gone", desk.word(1), 0);
        due("core gone", desk.start(3), 0);
        due("labels gone", desk.labels(), 0);
        due("label gone", label(desk, "a"), THROWN);
        due("told gone", desk.told(), 0);
        write(desk, "a:word a;");
        due("a label may be told again in a new text", assembled(desk), 1);
    }

    private static void faultsLeaveTheRest() {
        AsmDesk desk = new AsmDesk();
        write(desk, "word 7;a:core 1;word 8;");
        due("good", assembled(desk), 2);
        String[] faulty = {"b:word 9;core 1;word $;", "b:word 9;core 1;word nope;", "b:word 9;core 1;core 4;"};
        for (String text : faulty) {
            write(desk, text);
            due(text, assembled(desk), THROWN);
            due(text + " word 0", desk.word(0), 7);
            due(text + " word 1", desk.word(1), 8);
            due(text + " start", desk.start(1), 1);
            due(text + " labels", desk.labels(), 1);
            due(text + " a", label(desk, "a"), 1);
            due(text + " b", label(desk, "b"), THROWN);
            due(text + " told", desk.told(), 2);
        }
        write(desk, "halt;");
        due("the faulty tape is gone", assembled(desk), 1);
        due("no fault now", desk.fault(0), 0);
        due("no place now", desk.fault(1), 0);
    }

    // The terms: tokens and faults

    private static void tokens() {
        good("abcdef:;", 0);
        bad("abcdefg:;", 1, 0);
        good("a12345:;", 0);
        bad("a123456:;", 1, 0);
        good("word 0000000001;", 1);
        bad("word 00000000001;", 1, 5);
        bad("word 12ab;", 1, 7);
        bad("1a:;", 1, 0);
        bad("haLt;", 1, 2);
        bad("Halt;", 1, 0);
        bad("halt.;", 1, 4);
        good("word-5;", 1);
        bad("word5;", 1, 0);
        bad("ha lt;", 1, 0);
        bad("word 1 2;", 1, 7);
        bad("addi r1,r0,- -1;", 1, 13);
        good("r1:addi r1,r1,r1;", 1);
        good("halt:halt;word:word halt;", 2);
        good("halt:add:org:core:jal r0,org;", 1);
    }

    private static void syntaxFaults() {
        bad("halt", 1, 4);
        bad("halt  ", 1, 6);
        bad("foo;", 1, 0);
        bad("foo", 1, 0);
        bad("foo ", 1, 0);
        bad("  foo ;", 1, 2);
        bad("foo $;", 1, 4);
        bad("foo toolong;", 1, 4);
        bad("foo 12345678901;", 1, 4);
        bad("foo bar:;", 1, 0);
        bad("foo bar $;", 1, 0);
        bad("foo -;", 1, 0);
        bad("foo 12;", 1, 0);
        bad("x: foo;", 1, 3);
        bad("x: foo $;", 1, 7);
        bad("x", 1, 0);
        bad("x:", 1, 2);
        bad("x::;", 1, 2);
        bad(":;", 1, 0);
        bad("5;", 1, 0);
        bad("-;", 1, 0);
        bad("halt halt;", 1, 5);
        bad("halt,;", 1, 4);
        bad("halt x:;", 1, 5);
        bad("halt $;", 1, 5);
        bad("add", 1, 3);
        bad("add r1", 1, 6);
        bad("add r1 r2,r3;", 1, 7);
        bad("add r1,r2;", 1, 9);
        bad("add r1,r2,5;", 1, 10);
        bad("add r1,r2,r3,r4;", 1, 12);
        bad("add r8,r1,r2;", 1, 4);
        bad("add r9,r1,r2;", 1, 4);
        bad("add r,r1,r2;", 1, 4);
        bad("add r01,r1,r2;", 1, 4);
        bad("add q1,r1,r2;", 1, 4);
        bad("add 29232,r1,r2;", 1, 4);
        bad("addi r1,r2,;", 1, 11);
        bad("addi r1,r2,-;", 1, 12);
        bad("addi r1,r2,-x;", 1, 12);
        bad("addi r1,r2,-", 1, 12);
        bad("lui r1;", 1, 6);
        bad("lw r1,5;", 1, 7);
        bad("lw r1,(r2);", 1, 6);
        bad("lw r1,5(2);", 1, 8);
        bad("lw r1,5(r2;", 1, 10);
        bad("sw r1,r2,5;", 1, 8);
        bad("swap r1,r2,r3;", 1, 11);
        bad("fadd r1,r2,5(r3);", 1, 11);
        bad("jal r1,r2,5;", 1, 9);
        bad("beq r1,5,r2;", 1, 7);
        bad("fence r1;", 1, 6);
        bad("word;", 1, 4);
        bad("org -1;", 1, 4);
        bad("org x;", 1, 4);
        bad("x:org x;", 1, 6);
        bad("core -1;", 1, 5);
        bad("core r1;", 1, 5);
    }

    private static void labelFaults() {
        bad("x:x:;", 2, 2);
        bad("x:;halt; x:;", 2, 9);
        bad("x:;x:;x:;", 2, 3);
        bad("jal r1,nope;", 2, 7);
        bad("word x;y:;", 2, 5);
        bad("word r1;", 2, 5);
        bad("addi r1,r2,halt;halt;", 2, 11);
        good("word x;x:;", 1);
        good("x:;word x;", 1);
    }

    private static void rangeFaults() {
        String[] before = {"addi r1,r0,", "lui r1,", "lw r1,", "sw r1,", "beq r1,r2,", "bne r1,r2,", "blt r1,r2,",
            "jal r1,", "jalr r1,r2,"};
        for (String head : before) {
            String tail = head.startsWith("lw") || head.startsWith("sw") ? "(r3);" : ";";
            good(head + "2047" + tail, 1);
            good(head + "-2048" + tail, 1);
            bad(head + "2048" + tail, 3, head.length());
            bad(head + "-2049" + tail, 3, head.length());
            bad(head + " - 9999999999" + tail, 3, head.length() + 1);
        }
        good("word 2147483647;word -2147483648;", 2);
        bad("word 2147483648;", 3, 5);
        bad("word -2147483649;", 3, 5);
        bad("word 4294967296;", 3, 5);
        bad("word 9999999999;", 3, 5);
        good("org 0;org 255;", 0);
        bad("org 256;", 3, 4);
        bad("org 4294967296;", 3, 4);
        good("core 0;core 3;", 0);
        bad("core 4;", 3, 5);
        bad("core 4294967297;", 3, 5);
        good("org 255;halt;", 1);
        bad("org 255;halt; halt;", 3, 14);
        bad("org 255;word 1;x:y: word 2;", 3, 20);
        good("org 255;halt;x:core 1;org 0;jal r1,x;", 2);
        bad("org 255;halt;halt;org 0;", 3, 13);
    }

    private static void leastPlaceOfFaults() {
        bad("core 4;x:x:;halt", 1, 16);
        bad("core 4;x:x:;", 3, 5);
        bad("x:x:;core 4;", 2, 2);
        bad("word nope;core 4;", 2, 5);
        bad("core 4;word nope;", 3, 5);
        bad("word nope;x:x:;", 2, 5);
        bad("x:x:;word nope;", 2, 2);
        bad("word 9999999999;word 9999999999;", 3, 5);
        bad("org 256;halt;x:x:;", 3, 4);
        bad("x:org 256;jal r1,x;", 3, 6);
        bad("org 255;halt;jal r1,nope;", 3, 13);
        bad("word nope;org 255;halt;halt;", 2, 5);
        bad("org 9999;x:word x;", 3, 4);
        bad("addi r1,r0,x;org 9999;x:;", 3, 17);
        bad("jal r1,x;org 9999999999;x:;", 3, 13);
        bad("word x;org 9999999999;x:;", 3, 11);
    }

    // Promise 4

    private static void fault() {
        AsmDesk desk = new AsmDesk();
        for (int what : new int[] {-1, 2, 3, Integer.MIN_VALUE, Integer.MAX_VALUE}) {
            due("fault(" + what + ")", desk.fault(what), -1);
        }
        write(desk, " $");
        due("a fault", assembled(desk), THROWN);
        due("kind", desk.fault(0), 1);
        due("place", desk.fault(1), 1);
        due("another", desk.fault(2), -1);
        due("another", desk.fault(-1), -1);
        write(desk, "word x;");
        due("typing leaves it", desk.fault(0), 1);
        due("next fault", assembled(desk), THROWN);
        due("latest kind", desk.fault(0), 2);
        due("latest place", desk.fault(1), 5);
        due("empty tape", assembled(desk), 0);
        due("none", desk.fault(0), 0);
        due("no place", desk.fault(1), 0);
    }

    // The terms: instructions

    private static void instructions() {
        laid("halt;", 0);
        laid("addi r1,r2,3;", op(1) | d(1) | a(2) | 3);
        String[] threes = {"add", "sub", "and", "or", "xor", "slt", "sll", "sra"};
        for (int i = 0; i < threes.length; i++) {
            laid(threes[i] + " r5,r6,r7;", op(2 + i) | d(5) | a(6) | b(7));
            laid(threes[i] + " r7,r0,r0;", op(2 + i) | d(7));
            laid(threes[i] + " r0,r7,r0;", op(2 + i) | a(7));
        }
        laid("lui r7,2047;", op(10) | d(7) | 2047);
        laid("lw r1,-1(r2);", op(11) | d(1) | a(2) | 0xFFF);
        laid("sw r1,5(r2);", op(12) | b(1) | a(2) | 5);
        laid("beq r1,r2,-2048;", op(13) | a(1) | b(2) | 0x800);
        laid("bne r3,r4,1;", op(14) | a(3) | b(4) | 1);
        laid("blt r5,r6,2;", op(15) | a(5) | b(6) | 2);
        laid("jal r7,9;", op(16) | d(7) | 9);
        laid("jalr r1,r2,-9;", op(17) | d(1) | a(2) | 0xFF7);
        laid("swap r1,r2,(r3);", op(18) | d(1) | b(2) | a(3));
        laid("fadd r4,r5,(r6);", op(19) | d(4) | b(5) | a(6));
        laid("fmax r7,r0,(r1);", op(20) | d(7) | a(1));
        laid("fence;", op(21));
        laid("word 12;", 12);
        laid("word -1;", -1);
        laid("word -0;", 0);
        laid("word 2147483647;", Integer.MAX_VALUE);
        laid("word -2147483648;", Integer.MIN_VALUE);
        laid("addi r0,r0,-0;", op(1));
    }

    private static void values() {
        String head = "org 9;x:;org 100;";
        laidAt(head + "word x;", 100, 9);
        laidAt(head + "addi r0,r0,x;", 100, op(1) | 9);
        laidAt(head + "lui r0,x;", 100, op(10) | 9);
        laidAt(head + "lw r0,x(r0);", 100, op(11) | 9);
        laidAt(head + "sw r0,x(r0);", 100, op(12) | 9);
        laidAt(head + "beq r0,r0,x;", 100, op(13) | (-91 & 0xFFF));
        laidAt(head + "bne r0,r0,x;", 100, op(14) | (-91 & 0xFFF));
        laidAt(head + "blt r0,r0,x;", 100, op(15) | (-91 & 0xFFF));
        laidAt(head + "jal r0,x;", 100, op(16) | (-91 & 0xFFF));
        laidAt(head + "jalr r0,r0,x;", 100, op(17) | 9);
        laidAt("org 3;jal r0,x;org 20;x:;", 3, op(16) | 17);
        laidAt("org 3;x:jal r0,x;", 3, op(16));
        laidAt("jal r0,x;org 255;halt;x:;", 0, op(16) | 256);
        laidAt("org 255;jal r0,x;org 0;x:;", 255, op(16) | (-255 & 0xFFF));
        laidAt("halt;word x;org 255;halt;x:;", 1, 256);
    }

    private static void addresses() {
        laidAt("word 1;word 2;", 1, 2);
        laidAt("org 7;word 1;word 2;", 8, 2);
        laidAt("org 7;word 1;org 3;word 2;word 3;", 4, 3);
        laidAt("word 1;org 0;word 2;", 0, 2);
        laidAt("word x;org 0;word 5;x:;", 0, 5);
        laidAt("word 5;org 0;word x;org 9;x:;", 0, 9);
        laidAt("word 5;org 0;halt;", 0, 0);
        laidAt("org 255;word 6;", 255, 6);
    }

    // Promise 5

    private static void word() {
        AsmDesk desk = new AsmDesk();
        write(desk, "word 1;org 255;word 2;");
        due("two", assembled(desk), 2);
        due("word 0", word(desk, 0), 1);
        due("word 255", word(desk, 255), 2);
        due("none told", word(desk, 1), 0);
        for (int k : new int[] {-1, 256, 257, Integer.MIN_VALUE, Integer.MAX_VALUE}) {
            due("word " + k, word(desk, k), THROWN);
        }
    }

    // Promise 6

    private static void start() {
        AsmDesk desk = new AsmDesk();
        write(desk, "core 0;halt;core 1;halt;core 2;org 9;core 3;");
        due("two", assembled(desk), 2);
        due("start 0", start(desk, 0), 0);
        due("start 1", start(desk, 1), 1);
        due("start 2", start(desk, 2), 2);
        due("start 3", start(desk, 3), 9);
        for (int core : new int[] {-1, 4, Integer.MIN_VALUE, Integer.MAX_VALUE}) {
            due("start " + core, start(desk, core), THROWN);
        }
        write(desk, "org 5;core 1;core 2;org 3;core 1;org 255;core 3;halt;core 2;");
        due("one", assembled(desk), 1);
        due("later one", start(desk, 1), 3);
        due("later one at 256", start(desk, 2), 0);
        due("at 255", start(desk, 3), 255);
        due("not told", start(desk, 0), 0);
    }

    // Promise 7

    private static void labels() {
        AsmDesk desk = new AsmDesk();
        write(desk, "a:b:halt;c:;word d;d:;");
        due("labels text", assembled(desk), 2);
        due("labels", desk.labels(), 4);
        StringBuilder many = new StringBuilder();
        for (char c = 'a'; c <= 'z'; c++) {
            many.append(c).append(':');
        }
        for (int i = 0; i < 142; i++) {
            many.append((char) ('a' + i / 36)).append("abcdefghijklmnopqrstuvwxyz0123456789".charAt(i % 36)).append(':');
        }
        write(desk, many + ";");
        due("as many labels as a tape holds", assembled(desk), 0);
        due("as many labels as a tape holds", desk.labels(), 168);
        due("the last of them", label(desk, "d7"), 0);
    }

    // Promise 8

    private static void label() {
        AsmDesk desk = new AsmDesk();
        write(desk, "a:halt;ab:halt;abcde9:org 255;word 1;end:halt:;");
        due("labels text", assembled(desk), 3);
        due("a", label(desk, "a"), 0);
        due("ab", label(desk, "ab"), 1);
        due("abcde9", label(desk, "abcde9"), 2);
        due("end", label(desk, "end"), 256);
        due("halt", label(desk, "halt"), 256);
        due("b", label(desk, "b"), THROWN);
        due("ba", label(desk, "ba"), THROWN);
        due("abcde", label(desk, "abcde"), THROWN);
        due("0", label(desk, 0L), THROWN);
        due("-1", label(desk, -1L), THROWN);
        due("a with a byte above", label(desk, 0x0100_0000_0000_0061L), THROWN);
        due("a with a 0 below", label(desk, 0x6100L), THROWN);
        due("A", label(desk, "A"), THROWN);
        due("none in a new object", label(new AsmDesk(), "a"), THROWN);
    }

    // Promise 9

    private static void told() {
        AsmDesk desk = new AsmDesk();
        write(desk, "halt;word 1;org 0;fence;core 1;x:;");
        due("told", assembled(desk), 3);
        due("told", desk.told(), 3);
        write(desk, "halt;halt");
        due("a fault", assembled(desk), THROWN);
        due("told stays", desk.told(), 3);
        write(desk, "org 255;halt;halt;");
        due("a fault", assembled(desk), THROWN);
        due("told stays", desk.told(), 3);
        write(desk, "halt;");
        due("typing tells nothing", desk.told(), 3);
        due("told", assembled(desk), 1);
        due("told", desk.told(), 1);
        write(desk, "halt;".repeat(96));
        due("a tape full of halts", assembled(desk), 96);
        due("a tape full of halts", desk.told(), 96);
    }

    /** The word of a text with one statement, at both ends of the addresses. */
    private static void laid(String text, int word) {
        laidAt(text, 0, word);
        laidAt("org 255;" + text, 255, word);
    }
}
