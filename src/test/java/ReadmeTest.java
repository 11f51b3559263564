import java.io.IOException;
import java.nio.file.Files;
import java.nio.file.Path;
import java.util.ArrayList;
import java.util.Collections;
import java.util.List;

/** README.md tells the truth: its examples stand in here line by line, and answer what it says. */
public final class ReadmeTest extends Check {
    private static final Path README = Path.of("README.md");
    private static final Path SOURCE = Path.of("src/test/java/ReadmeTest.java");
    private static final String FENCE = "```";

    public static void main(String[] args) throws IOException {
        examples();
        examplesAreTheReadmes();
        orders();
        throwing();
        throwingChangesNothing();
        finish();
    }

    private static void examples() {
        sentence("README: Use");
        AsmDesk desk = new AsmDesk();
        boolean taken = desk.type(0x776F72642033333BL, 8);      // true: "word 33;" is on the tape
        due("taken", taken, true);
        int first = desk.assemble();                            // 1: how many instructions and words it told
        due("first", first, 1);
        due("word 33;", word(desk, 0), 33);
        boolean all = typeAll(desk, "core 1; loop: addi r1,r1,-1; bne r1,r0,loop; halt; org 255; word loop; end:;");
        int told = desk.assemble();                             // 4
        int again = desk.told();                                // 4: what the last good text told
        int branch = desk.word(1);                              // 0x0E010FFF: bne, a 1, b 0, N -1
        int untold = desk.word(7);                              // 0: no word was told for it
        int begins = desk.start(1);                             // 0
        int labels = desk.labels();                             // 2
        int loop = desk.label(0x6C6F6F70L);                     // 0: the address of "loop"
        int end = desk.label(0x656E64L);                        // 256: a label may lie behind the last word
        due("all", all, true);
        long[] got = {told, again, branch, untold, begins, labels, loop, end};
        long[] want = {4, 4, 0x0E010FFF, 0, 0, 2, 0, 256};
        for (int i = 0; i < got.length; i++) {
            due("reading, line " + i, got[i], want[i]);
        }
        faultExample(desk);
    }

    private static void faultExample(AsmDesk desk) {
        boolean typed = typeAll(desk, "halt; jal r1,nope;");
        boolean refused = false;
        try {
            desk.assemble();
        } catch (IllegalArgumentException e) {
            refused = true;                                     // true: there is no label nope
        }
        int kind = desk.fault(0);                               // 2
        int place = desk.fault(1);                              // 13: the character that nope begins with
        int kept = desk.told();                                 // 4: of the last good text still
        due("typed", typed, true);
        due("refused", refused, true);
        due("kind", kind, 2);
        due("place", place, 13);
        due("kept", kept, 4);
    }

    static boolean typeAll(AsmDesk desk, String text) {
        for (int i = 0; i < text.length(); i += 8) {
            String part = text.substring(i, Math.min(i + 8, text.length()));
            long word = 0;
            for (int j = 0; j < part.length(); j++) {
                word = word << 8 | part.charAt(j);
            }
            if (!desk.type(word, part.length())) {
                return false;
            }
        }
        return true;
    }

    private static void examplesAreTheReadmes() throws IOException {
        sentence("README: the examples");
        List<String> source = stripped(Files.readAllLines(SOURCE));
        List<String> example = new ArrayList<>();
        boolean inside = false;
        int blocks = 0;
        for (String line : stripped(Files.readAllLines(README))) {
            if (line.startsWith(FENCE)) {
                if (inside) {
                    due("stands in ReadmeTest: " + example, Collections.indexOfSubList(source, example) >= 0, true);
                    example.clear();
                    blocks++;
                }
                inside = !inside;
            } else if (inside) {
                example.add(line);
            }
        }
        due("blocks", blocks, 6);
    }

    private static List<String> stripped(List<String> lines) {
        List<String> stripped = new ArrayList<>();
        for (String line : lines) {
            stripped.add(line.strip());
        }
        return stripped;
    }

    private static void orders() {
        sentence("README: Typing a text, the orders");
        good("halt;fence;", 2);
        good("add r1,r2,r3;sub r1,r2,r3;and r1,r2,r3;or r1,r2,r3;xor r1,r2,r3;slt r1,r2,r3;sll r1,r2,r3;sra r1,r2,r3;", 8);
        good("addi r1,r2,-3;jalr r1,r2,x;lui r1,3;x:;", 3);
        good("lw r1,3(r2);sw r1,x(r2);x:;", 2);
        good("x:beq r1,r2,x;bne r1,r2,-3;blt r1,r2,3;jal r1,x;", 4);
        good("swap r1,r2,(r3);fadd r1,r2,(r3);fmax r1,r2,(r3);", 3);
        good("word -3;org 255;core 3;", 1);
    }

    private static void throwing() {
        sentence("README: What each call throws, and when");
        AsmDesk desk = showing("x:word 7;");
        due("word(-1)", word(desk, -1), THROWN);
        due("word(0)", word(desk, 0), 7);
        due("word(255)", word(desk, 255), 0);
        due("word(256)", word(desk, 256), THROWN);
        due("start(-1)", start(desk, -1), THROWN);
        due("start(3)", start(desk, 3), 0);
        due("start(4)", start(desk, 4), THROWN);
        due("label x", label(desk, "x"), 0);
        due("label y", label(desk, "y"), THROWN);
        due("type", desk.type('$', 0), false);
        due("fault(2)", desk.fault(2), AsmDesk.NONE);
        write(desk, "$");
        badDue(desk, "$", 1, 0);
    }

    private static void throwingChangesNothing() {
        AsmDesk desk = showing("x:word 7;");
        write(desk, "y:word ");
        due("word(256)", word(desk, 256), THROWN);
        due("start(4)", start(desk, 4), THROWN);
        due("label y", label(desk, "y"), THROWN);
        due("fault", desk.fault(0), 0);
        write(desk, "8;");
        goodDue(desk, "y:word 8;", 1);
        due("word", word(desk, 0), 8);
        due("y", label(desk, "y"), 0);
    }
}
