import java.util.ArrayList;
import java.util.List;

/** The bounds of the terms: every sentence of them that names one, on both of its sides. */
public final class TermBoundsTest extends Check {
    // The document's forms: d, a, b registers, N a value, U a NUMBER.
    private static final String[] FORMS = {"halt", "addi d,a,N", "add d,a,b", "sub d,a,b", "and d,a,b", "or d,a,b",
        "xor d,a,b", "slt d,a,b", "sll d,a,b", "sra d,a,b", "lui d,N", "lw d,N(a)", "sw b,N(a)", "beq a,b,N", "bne a,b,N",
        "blt a,b,N", "jal d,N", "jalr d,a,N", "swap d,b,(a)", "fadd d,b,(a)", "fmax d,b,(a)", "fence", "word N", "org U",
        "core U"};
    private static final int INSTRUCTIONS = 22;
    private static final String SIGNS = ":;,()-";

    public static void main(String[] args) {
        blanks();
        blanksPartTokens();
        nameCharacters();
        nameLengths();
        numberLengths();
        signs();
        statements();
        labelsBeforeAStatement();
        formsEndTooEarly();
        formsWithATokenLess();
        formsWithATokenMore();
        formsWithAWrongToken();
        registers();
        registersInTheirBits();
        valuesInTheirBits();
        bitsThatAreNotThere();
        wordsWhole();
        labelsAsValues();
        nextAddress();
        starts();
        startsAt256();
        laterWord();
        syntaxGoesFirst();
        firstSyntaxFault();
        tapeEndsTooEarly();
        namesThatAreNoWords();
        wordsAsLabels();
        readBehindAName();
        labelsThatAreNone();
        labelsToldBefore();
        twelveBitValues();
        intValues();
        orgValues();
        coreValues();
        labelsFit();
        beyond255();
        labelAt256();
        behindAnOrgThatDoesNotFit();
        leastPlace();
        finish();
    }

    private static boolean isNameCharacter(int c) {
        return c >= 'a' && c <= 'z' || c >= '0' && c <= '9';
    }

    // Forms as rows of tokens

    private static List<String> tokens(String form) {
        String[] parts = form.split(" ");
        List<String> tokens = new ArrayList<>(List.of(parts[0]));
        for (int i = 0; parts.length > 1 && i < parts[1].length(); i++) {
            tokens.add(token(parts[1].charAt(i)));
        }
        tokens.add(";");
        return tokens;
    }

    private static String token(char part) {
        switch (part) {
            case 'd':
                return "r1";
            case 'a':
                return "r2";
            case 'b':
                return "r3";
            case 'N':
            case 'U':
                return "3";
            default:
                return String.valueOf(part);
        }
    }

    /** The part of the form that the i-th token is of; W for its word, ; for the end. */
    private static char part(String form, int i) {
        String[] parts = form.split(" ");
        if (i == 0) {
            return 'W';
        }
        return parts.length > 1 && i - 1 < parts[1].length() ? parts[1].charAt(i - 1) : ';';
    }

    /** With a blank behind each token. */
    private static String text(List<String> tokens) {
        return tokens.isEmpty() ? "" : String.join(" ", tokens) + " ";
    }

    /** Where the i-th token of such a text begins. */
    private static int place(List<String> tokens, int i) {
        return text(tokens.subList(0, i)).length();
    }

    private static int told(String form) {
        return form.startsWith("org") || form.startsWith("core") ? 0 : 1;
    }

    /** A form with one of its parts replaced, as a text. */
    private static String with(String form, char part, String instead) {
        StringBuilder text = new StringBuilder();
        List<String> tokens = tokens(form);
        for (int i = 0; i < tokens.size(); i++) {
            text.append(part(form, i) == part ? instead : tokens.get(i)).append(i == 0 ? " " : "");
        }
        return text.toString();
    }

    // Tokens

    private static void blanks() {
        sentence("blanks part TOKENS, and may stand anywhere between them");
        for (String form : FORMS) {
            List<String> tokens = tokens(form);
            for (int n : new int[] {0, 1, 2, 20}) {
                String gap = " ".repeat(n);
                // A word and the name behind it would be one token without a blank.
                String behindWord = n == 0 ? " " : gap;
                String row = String.join(gap, tokens.subList(1, tokens.size()));
                good(gap + "x" + gap + ":" + gap + tokens.get(0) + behindWord + row + gap, told(form));
            }
        }
        laidAt("word - 5;", 0, -5);
        laidAt("word -5;", 0, -5);
        laidAt("word-5;", 0, -5);
        laidAt("word-       5;", 0, -5);
        laidAt("lw r1,5(r2);", 0, op(11) | d(1) | a(2) | 5);
        good(" ".repeat(480), 0);
        good(" ".repeat(479) + ";", 0);
        good(";" + " ".repeat(479), 0);
    }

    private static void blanksPartTokens() {
        bad("ha lt;", 1, 0);
        bad("halt halt;", 1, 5);
        bad("haltx;", 1, 0);
        bad("word5;", 1, 0);
        bad("word 1 2;", 1, 7);
        good("word 12;", 1);
        bad("add r 1,r2,r3;", 1, 4);
        bad("addr1,r2,r3;", 1, 0);
        bad("a b:;", 1, 0);
        due("'a b' and 'ab' are not one", label(showing("ab:;"), "ab"), 0);
    }

    private static void nameCharacters() {
        sentence("NAMES (small letters and digits, a letter first");
        for (int c = 32; c <= 126; c++) {
            String first = (char) c + "b:;";
            if (c >= 'a' && c <= 'z') {
                good(first, 0);
                due(first, label(showing(first), (char) c + "b"), 0);
            } else if (c == ';' || c == ' ') {
                good(first, 0);
            } else {
                bad(first, 1, 0);
            }
            String later = "b" + (char) c + ":;";
            if (isNameCharacter(c)) {
                good(later, 0);
                due(later, label(showing(later), "b" + (char) c), 0);
            } else if (c == ' ') {
                good(later, 0);
            } else if (c == ':') {
                bad(later, 1, 2);
            } else {
                bad(later, 1, SIGNS.indexOf(c) >= 0 ? 0 : 1);
            }
        }
    }

    private static void nameLengths() {
        sentence("NAMES (.. at most 6)");
        for (String name : new String[] {"a", "z", "a0", "z9z", "abcd", "a1234", "zzzzzz", "a99999", "fmaxes"}) {
            good(name + ":word " + name + ";", 1);
            due(name, label(showing(name + ":;"), name), 0);
        }
        for (String name : new String[] {"abcdefg", "a123456", "zzzzzzzz", "aaaaaaaaa", "a".repeat(40)}) {
            bad(name + ":;", 1, 0);
            bad(name + ";", 1, 0);
            bad("x:" + name + ":;", 1, 2);
            bad("word " + name + ";", 1, 5);
            bad("addi r1,r2," + name + ";", 1, 11);
            bad("add " + name + ",r1,r2;", 1, 4);
            bad("halt " + name + ";", 1, 5);
        }
        bad("a".repeat(480), 1, 0);
        bad("haltxyz;", 1, 0);
        // Seven letters whose last six are a label, and whose first six are one.
        bad("bcdefg:;word abcdefg;", 1, 13);
        bad("abcdef:;word abcdefg;", 1, 13);
    }

    private static void numberLengths() {
        sentence("NUMBERS (1 to 10 digits)");
        for (int digits = 1; digits <= 10; digits++) {
            laidAt("word " + "0".repeat(digits - 1) + "7;", 0, 7);
            laidAt("word -" + "0".repeat(digits - 1) + "7;", 0, -7);
            good("org " + "0".repeat(digits - 1) + "7;core " + "0".repeat(digits - 1) + "3;", 0);
        }
        for (int digits : new int[] {11, 12, 18, 19, 20, 21, 40}) {
            String number = "0".repeat(digits - 1) + "1";
            bad("word " + number + ";", 1, 5);
            bad("word -" + number + ";", 1, 6);
            bad("org " + number + ";", 1, 4);
            bad("core " + number + ";", 1, 5);
            bad("addi r1,r2," + number + ";", 1, 11);
            bad("halt " + number + ";", 1, 5);
        }
        bad("0".repeat(480), 1, 0);
        bad("word " + "0".repeat(475), 1, 5);
        bad("word;", 1, 4);
        bad("word -;", 1, 6);
        bad("org;", 1, 3);
        bad("core ;", 1, 5);
        laidAt("word 1234567890;", 0, 1234567890);
        laidAt("word 0;", 0, 0);
        laidAt("word 9;", 0, 9);
        bad("word 9999999999;", 3, 5);
        bad("word /;", 1, 5);
        bad("word 1/;", 1, 6);
    }

    private static void signs() {
        sentence("SIGNS : ; , ( ) -");
        for (int c = 33; c <= 126; c++) {
            String first = (char) c + " halt;";
            String behind = "halt " + (char) c + ";";
            if (c == ';') {
                good(first, 1);
                good(behind, 1);
            } else if (c == ':') {
                bad(first, 1, 0);
                good(behind, 0);
            } else {
                bad(first, 1, 0);
                bad(behind, 1, 5);
            }
        }
    }

    // Statements

    private static void statements() {
        sentence("A TEXT: STATEMENTS, each with ; behind it");
        good("", 0);
        good(";", 0);
        good(";".repeat(480), 0);
        good("halt;", 1);
        bad("halt", 1, 4);
        good("halt;;halt;", 2);
        bad("halt;halt", 1, 9);
        bad("halt halt;", 1, 5);
        bad("halt,halt;", 1, 4);
        good("; halt;", 1);
        good("halt;".repeat(96), 96);
        bad("halt;".repeat(95) + "halt ", 1, 480);
    }

    private static void labelsBeforeAStatement() {
        sentence("perhaps LABEL : (once or more, NAMES), then perhaps one of");
        good("halt;", 1);
        good("x:halt;", 1);
        good("x:y:halt;", 1);
        good("x:y:z:a:b:c:d:halt;", 1);
        good("x:;", 0);
        good("x:y:;", 0);
        good("r1:r8:halt;", 1);
        bad("x:", 1, 2);
        bad("x:y:", 1, 4);
        bad("x::halt;", 1, 2);
        bad(":halt;", 1, 0);
        bad("5:halt;", 1, 0);
        bad("-x:halt;", 1, 0);
        bad("halt x:;", 1, 5);
        bad("halt;x:y", 1, 7);
        bad("x:halt halt;", 1, 7);
        bad("x:halt y:halt;", 1, 7);
        bad("x,y:halt;", 1, 0);
    }

    private static void formsEndTooEarly() {
        sentence("the TAPE's length, if it ends too early");
        for (String form : FORMS) {
            List<String> tokens = tokens(form);
            for (int n = 1; n < tokens.size(); n++) {
                String text = text(tokens.subList(0, n));
                bad(text.trim(), 1, text.length() - 1);
                bad(text, 1, text.length());
                bad("halt;x:" + text + "  ", 1, text.length() + 9);
            }
            good(text(tokens), told(form));
            good(text(tokens).trim(), told(form));
        }
    }

    private static void formsWithATokenLess() {
        sentence("the first character that can't stand there is kind 1");
        for (String form : FORMS) {
            for (int i = 1; i < tokens(form).size(); i++) {
                List<String> tokens = tokens(form);
                tokens.remove(i);
                bad(text(tokens), 1, place(tokens, i));
            }
        }
        bad("r1,r2,3;", 1, 0);
        bad("3;", 1, 0);
    }

    private static void formsWithATokenMore() {
        for (String form : FORMS) {
            // A label's name may stand behind word.
            for (int i = form.startsWith("word") ? 1 : 0; i < tokens(form).size() - 1; i++) {
                List<String> tokens = tokens(form);
                tokens.add(i, tokens.get(i));
                bad(text(tokens), 1, place(tokens, i + 1));
            }
            List<String> tokens = tokens(form);
            tokens.add(";");
            good(text(tokens), told(form));
        }
        bad("word word 3;", 1, 10);
        bad("word - - 3;", 1, 7);
        bad("word 3 -;", 1, 7);
        bad("add r1,r2,r3,r4;", 1, 12);
        bad("addi r1,r2,3,4;", 1, 12);
        bad("lw r1,3(r2)(r3);", 1, 11);
        bad("org 1,2;", 1, 5);
    }

    private static void formsWithAWrongToken() {
        List<String> others = new ArrayList<>(List.of("r0", "r7", "r8", "x1", "12", "abcdef", "toolong", "12345678901"));
        for (int c = 33; c <= 126; c++) {
            others.add(String.valueOf((char) c));
        }
        for (String form : FORMS) {
            for (int i = 1; i < tokens(form).size(); i++) {
                for (String other : others) {
                    // With a colon behind it a word is a label.
                    if (i > 1 || !other.equals(":")) {
                        wrongToken(form, i, other);
                    }
                }
            }
        }
    }

    private static void wrongToken(String form, int i, String other) {
        List<String> tokens = tokens(form);
        tokens.set(i, other);
        char part = part(form, i);
        if (part == 'N' && other.equals("-")) {
            bad(text(tokens), 1, place(tokens, i + 1));
        } else if (part == 'N' && other.matches("[a-z][a-z0-9]{0,5}")) {
            bad(text(tokens), 2, place(tokens, i));
        } else if (!stands(part, other)) {
            bad(text(tokens), 1, place(tokens, i));
        }
    }

    private static boolean stands(char part, String token) {
        switch (part) {
            case 'd':
            case 'a':
            case 'b':
                return token.matches("r[0-7]");
            case 'N':
            case 'U':
                return token.matches("[0-9]{1,10}");
            default:
                return token.equals(String.valueOf(part));
        }
    }

    // Registers, bits and values

    private static void registers() {
        sentence("d, a, b: r0 .. r7");
        String[] none = {"r8", "r9", "r", "r00", "r01", "r07", "r10", "r70", "rr", "r7r", "ra", "q7", "s0", "q0", "s7", "x", "0",
            "7", "-1", "R0", "r-1", "0r", "ar1"};
        for (String form : FORMS) {
            for (char part : new char[] {'d', 'a', 'b'}) {
                if (operands(form).indexOf(part) >= 0) {
                    for (int r = 0; r <= 7; r++) {
                        good(with(form, part, "r" + r), 1);
                    }
                    int place = with(form, part, "~").indexOf('~');
                    for (String other : none) {
                        bad(with(form, part, other), 1, place);
                    }
                }
            }
        }
    }

    private static String operands(String form) {
        return form.indexOf(' ') < 0 ? "" : form.substring(form.indexOf(' ') + 1);
    }

    /** The int that the document's bits make of the form with these parts. */
    private static int code(String form, int d, int a, int b, int n) {
        int number = List.of(FORMS).indexOf(form);
        String operands = operands(form);
        return op(number) | (operands.indexOf('d') >= 0 ? d(d) : 0) | (operands.indexOf('a') >= 0 ? a(a) : 0)
            | (operands.indexOf('b') >= 0 ? b(b) : 0) | (operands.indexOf('N') >= 0 ? n & 0xFFF : 0);
    }

    private static List<String> instructions() {
        return List.of(FORMS).subList(0, INSTRUCTIONS);
    }

    private static List<String> instructionsWithN() {
        List<String> forms = new ArrayList<>();
        for (String form : instructions()) {
            if (operands(form).indexOf('N') >= 0) {
                forms.add(form);
            }
        }
        return forms;
    }

    private static void registersInTheirBits() {
        sentence("bits 24 .. 31 its number, 20 .. 22 d, 16 .. 18 a, 12 .. 14 b");
        for (String form : instructions()) {
            laidAt(with(form, '~', ""), 0, code(form, 1, 2, 3, 3));
            for (int r = 0; r <= 7; r++) {
                laidAt(with(form, 'd', "r" + r), 0, code(form, r, 2, 3, 3));
                laidAt(with(form, 'a', "r" + r), 0, code(form, 1, r, 3, 3));
                laidAt(with(form, 'b', "r" + r), 0, code(form, 1, 2, r, 3));
            }
        }
        laidAt("fence;", 0, 0x15000000);
        laidAt("fmax r7,r7,(r7);", 0, 0x14777000);
        laidAt("addi r7,r7,-1;", 0, 0x01770FFF);
        laidAt("sra r7,r7,r7;", 0, 0x09777000);
    }

    private static void valuesInTheirBits() {
        sentence("0 .. 11 N (its lowest 12 bits)");
        for (String form : instructionsWithN()) {
            for (int n : new int[] {0, 1, 2, 1023, 1024, 2046, 2047, -1, -2, -1024, -1025, -2047, -2048}) {
                laidAt(with(form, 'N', String.valueOf(n)), 0, code(form, 1, 2, 3, n));
            }
            laidAt(with(form, 'N', "-0"), 0, code(form, 1, 2, 3, 0));
        }
    }

    private static void bitsThatAreNotThere() {
        sentence("what it has not is 0");
        AsmDesk desk = new AsmDesk();
        for (String form : instructions()) {
            String text = with(form, 'N', "-1").replaceAll("r[123]", "r7");
            // A full statement in front of each, so that nothing of it may stay.
            write(desk, "addi r7,r7,-1;add r7,r7,r7;" + text);
            due("'" + text + "'", assembled(desk), 3);
            due("'" + text + "'", word(desk, 2), code(form, 7, 7, 7, -1));
        }
        laidAt("word -1;halt;", 1, 0);
        laidAt("word -1;fence;", 1, op(21));
        laidAt("core 3;org 255;halt;", 255, 0);
    }

    private static void wordsWhole() {
        sentence("word N is N");
        int[] words = {0, 1, -1, 2047, 2048, 4095, 4096, -2048, -2049, 65535, 65536, -65536, 1 << 24, 1 << 30, -(1 << 30),
            Integer.MAX_VALUE - 1, Integer.MAX_VALUE, Integer.MIN_VALUE + 1, Integer.MIN_VALUE};
        for (int word : words) {
            laidAt("word " + word + ";", 0, word);
            laidAt("org 255;word " + word + ";", 255, word);
        }
    }

    private static void labelsAsValues() {
        sentence("a LABEL (its address; in beq, bne, blt, jal: its address less that of the INSTRUCTION)");
        int[] addresses = {0, 1, 128, 254, 255};
        for (String form : instructionsWithN()) {
            boolean relative = List.of("beq", "bne", "blt", "jal").contains(tokens(form).get(0));
            for (int to : addresses) {
                for (int at : addresses) {
                    int word = code(form, 1, 2, 3, relative ? to - at : to);
                    String label = "org " + to + ";x:;";
                    String use = "org " + at + ";" + with(form, 'N', "x");
                    laidAt(label + use, at, word);
                    laidAt(use + label, at, word);
                }
            }
        }
        for (int to : addresses) {
            laidAt("org " + to + ";x:;org 7;word x;", 7, to);
            laidAt("org 7;word x;org " + to + ";x:;", 7, to);
        }
        laidAt("r1:r7:addi r7,r1,r7;", 0, op(1) | d(7) | a(1));
        laidAt("halt;r7:addi r7,r1,r7;", 1, op(1) | d(7) | a(1) | 1);
    }

    // Addresses and cores

    private static void nextAddress() {
        sentence("at the next address (0 at first, that behind the last one; org N: N is the next one)");
        laidAt("word 5;", 0, 5);
        laidAt("word 5;word 6;", 0, 5);
        laidAt("word 5;word 6;", 1, 6);
        laidAt("word 5;halt;word 6;", 2, 6);
        laidAt("word 5;x:;;core 1;word 6;", 1, 6);
        for (int address : new int[] {0, 1, 127, 128, 253, 254, 255}) {
            laidAt("org " + address + ";word 5;", address, 5);
            laidAt("word 1;org 9;org " + address + ";word 5;", address, 5);
            due("x at " + address, label(showing("org " + address + ";x:;"), "x"), address);
            due("x at " + address, label(showing("halt;org " + address + ";x:;"), "x"), address);
        }
        AsmDesk desk = showing("org 254;word 1;word 2;org 3;word 3;org 0;word 4;word 5;");
        int[][] due = {{0, 4}, {1, 5}, {2, 0}, {3, 3}, {4, 0}, {253, 0}, {254, 1}, {255, 2}};
        for (int[] row : due) {
            due("word " + row[0], word(desk, row[0]), row[1]);
        }
        AsmDesk orgs = showing("org 9;org 8;");
        due("an org alone lays nothing", word(orgs, 9), 0);
        due("an org alone tells nothing", orgs.told(), 0);
    }

    private static void starts() {
        sentence("core N: core N begins at the next address (0 otherwise; the later one, if it is told twice)");
        for (int core = 0; core < 4; core++) {
            for (int address : new int[] {0, 1, 128, 254, 255}) {
                AsmDesk desk = showing("org " + address + ";core " + core + ";");
                for (int other = 0; other < 4; other++) {
                    due("core " + core + " at " + address + ", start " + other, start(desk, other), other == core ? address : 0);
                }
            }
            due("up", start(showing("org 5;core " + core + ";org 9;core " + core + ";"), core), 9);
            due("down", start(showing("org 9;core " + core + ";org 5;core " + core + ";"), core), 5);
            due("to 0", start(showing("org 9;core " + core + ";org 0;core " + core + ";"), core), 0);
        }
        due("first of all", start(showing("core 1;halt;"), 1), 0);
        due("behind one", start(showing("halt;core 1;"), 1), 1);
        due("a later org moves nothing", start(showing("halt;core 1;org 9;"), 1), 1);
        due("two cores at one address", start(showing("org 4;core 1;core 2;"), 1), 4);
    }

    private static void startsAt256() {
        sentence("core N (.. at 256: 0)");
        for (int core = 0; core < 4; core++) {
            String tell = "core " + core + ";";
            due("at 255", start(showing("org 255;" + tell + "halt;"), core), 255);
            due("at 256", start(showing("org 255;halt;" + tell), core), 0);
            due("first at 5, then at 256", start(showing("org 5;" + tell + "org 255;halt;" + tell), core), 0);
            due("first at 256, then at 5", start(showing("org 255;halt;" + tell + "org 5;" + tell), core), 5);
            good("org 255;halt;" + tell, 1);
        }
    }

    private static void laterWord() {
        sentence("What is told twice for an address: the later one");
        laidAt("word 1;org 0;word 2;", 0, 2);
        laidAt("word 2;org 0;word 1;", 0, 1);
        laidAt("word 1;org 0;halt;", 0, 0);
        laidAt("halt;org 0;word 1;", 0, 1);
        laidAt("org 255;word 1;org 255;word 2;", 255, 2);
        laidAt("word x;org 0;word 2;org 9;x:;", 0, 2);
        laidAt("word 2;org 0;word x;org 9;x:;", 0, 9);
        laidAt("org 9;x:;org 0;word x;org 0;word 2;", 0, 2);
        laidAt("word 1;org 0;word 2;org 0;word 3;", 0, 3);
        laidAt("word 1;word 2;org 0;word 3;", 1, 2);
        laidAt("word 1;word 2;org 1;word 3;", 0, 1);
        good("word 1;org 0;word 2;", 2);
    }

    // Faults of kind 1

    private static void syntaxGoesFirst() {
        sentence("kind 1; if there is none, the least place of: 2, 3");
        String[] others = {"core 4;", "org 256;", "word 2147483648;", "addi r1,r2,2048;", "org 255;halt;halt;", "word q;",
            "x:x:;", "jal r1,q;"};
        for (String text : others) {
            bad(text + "$", 1, text.length());
            bad(text + "halt", 1, text.length() + 4);
            bad(text + "foo;", 1, text.length());
            bad(text + "add r8,r1,r1;", 1, text.length() + 4);
            AsmDesk desk = typed(text + "halt;");
            due("'" + text + "'", assembled(desk), THROWN);
            due("'" + text + "' kind", desk.fault(0) != 1 && desk.fault(0) != 0, true);
        }
        bad("word q q;", 1, 7);
        bad("addi r1,r2,2048,;", 1, 15);
        bad("core 4 4;", 1, 7);
        bad("org 256,;", 1, 7);
        bad("x:x::;", 1, 4);
    }

    private static void firstSyntaxFault() {
        sentence("the first character that can't stand there is kind 1 (of a TOKEN that is none, or can't stand, its first one)");
        bad("$ $", 1, 0);
        bad("halt;$;$;", 1, 5);
        bad("add r8,r9,$;", 1, 4);
        bad("add r1,r9,$;", 1, 7);
        bad("foo;bar;$", 1, 0);
        bad("halt,foo $;", 1, 4);
        bad("halt 123 $;", 1, 5);
        bad("halt abc $;", 1, 5);
        bad("   halt   abc;", 1, 10);
        bad("word 12345678901;", 1, 5);
        bad("word   toolong;", 1, 7);
        bad("add r1,r2,r33;", 1, 10);
        bad("org abc;", 1, 4);
        bad("haLt;", 1, 2);
        bad("HALT;", 1, 0);
        bad("word 5$;", 1, 6);
    }

    private static void tapeEndsTooEarly() {
        sentence("the TAPE's length, if it ends too early");
        bad("x:", 1, 2);
        bad("x: ", 1, 3);
        bad("x:y:   ", 1, 7);
        bad("word -", 1, 6);
        bad("word - ", 1, 7);
        bad("addi r1,r2,-", 1, 12);
        bad("halt;halt ", 1, 10);
        bad(" ".repeat(478) + "x:", 1, 480);
        bad(" ".repeat(476) + "halt", 1, 480);
        bad(" ".repeat(475) + "halt", 1, 479);
        good(" ".repeat(475) + "halt;", 1);
        good("halt; ", 1);
    }

    private static void namesThatAreNoWords() {
        sentence("a NAME that is none of these words can't stand without a : behind it");
        List<String> words = new ArrayList<>();
        for (String form : FORMS) {
            words.add(tokens(form).get(0));
        }
        for (String word : words) {
            String[] near = {word + "x", word + "0", word.substring(0, word.length() - 1), word.substring(1), word + "i",
                new StringBuilder(word).reverse().toString()};
            for (String name : near) {
                if (!words.contains(name)) {
                    bad(name + ";", 1, 0);
                    bad(name + " r1,r2,r3;", 1, 0);
                    bad("halt; x: " + name + ";", 1, 9);
                    good(name + ":;", 0);
                    good(name + " : halt;", 1);
                }
            }
        }
        for (String name : new String[] {"foo", "a", "z", "r0", "r7", "nop", "abcdef"}) {
            bad(name + ";", 1, 0);
            bad(name, 1, 0);
            good(name + ":;", 0);
        }
    }

    private static void wordsAsLabels() {
        for (String form : FORMS) {
            String word = tokens(form).get(0);
            good(word + ":;", 0);
            good(word + ":" + with(form, '~', ""), told(form));
            good("word " + word + ";" + word + " : ;", 1);
            bad(word + ":" + word + ":;", 2, word.length() + 1);
            due(word, label(showing("halt;" + word + ":;"), word), 1);
            bad("word " + word + ";" + with(form, '~', ""), 2, 5);
        }
    }

    private static void readBehindAName() {
        sentence("but what is behind it is read first");
        for (int c = 33; c <= 126; c++) {
            String text = "foo " + (char) c + ";";
            if (c == ':') {
                good(text, 0);
            } else {
                bad(text, 1, isNameCharacter(c) || SIGNS.indexOf(c) >= 0 ? 0 : 4);
            }
        }
        bad("foo$;", 1, 3);
        bad("foo       $", 1, 10);
        bad("x:foo $;", 1, 6);
        bad("foo abcdef;", 1, 0);
        bad("foo abcdefg;", 1, 4);
        bad("foo 1234567890;", 1, 0);
        bad("foo 12345678901;", 1, 4);
        bad("foo bar $;", 1, 0);
        bad("foo , $;", 1, 0);
        bad("foo ;$;", 1, 0);
        bad("foo", 1, 0);
        bad("foo : $;", 1, 6);
    }

    // Faults of kind 2

    private static void labelsThatAreNone() {
        sentence("2: a LABEL that is none");
        for (String form : FORMS) {
            if (operands(form).indexOf('N') >= 0) {
                String text = with(form, 'N', "q");
                bad(text, 2, with(form, 'N', "~").indexOf('~'));
                good(text + "q:;", 1);
                good("q:;" + text, 1);
                good("q:" + text, 1);
            }
        }
        bad("ab:word a;", 2, 8);
        bad("a:word ab;", 2, 7);
        bad("ab:word ba;", 2, 8);
        bad("word r1;", 2, 5);
        bad("word halt;halt;", 2, 5);
        bad("addi r1,r1,r1;", 2, 11);
        bad("word   q;word p;", 2, 7);
        bad("q:word q;word p;word o;", 2, 14);
        bad("aacdef:word bbcdef;", 2, 12);
    }

    private static void labelsToldBefore() {
        sentence("2: a LABEL that .. was told before (as LABEL :)");
        bad("x:x:;", 2, 2);
        bad("x:;x:;", 2, 3);
        bad("x:;halt; x:halt;", 2, 9);
        bad("x:x:x:;", 2, 2);
        bad("x:y:y:x:;", 2, 4);
        bad("x:y:x:y:;", 2, 4);
        bad("abcdef:abcdef:;", 2, 7);
        bad("x:word x;x:;", 2, 9);
        bad("x : x : ;", 2, 4);
        good("x:y:;", 0);
        good("x:xx:xxx:;", 0);
        good("aacdef:bbcdef:;", 0);
        good("word x;word x;x:word x;", 3);
        good("x:word x;", 1);
    }

    // Faults of kind 3

    private static void twelveBitValues() {
        sentence("3: an N or NUMBER that does not fit (.. else -2048 .. 2047): its first TOKEN");
        String[] fitting = {"0", "1", "2046", "2047", "0000002047", "-1", "-2047", "-2048", "- 2048", "-0000002048", "-0"};
        String[] others = {"2048", "2049", "4095", "4096", "4097", "65536", "2147483647", "2147483648", "4294967295", "4294967296",
            "4294967297", "9999999999", "-2049", "- 2049", "-4096", "-65536", "-2147483648", "-4294967296", "-9999999999"};
        for (String form : instructionsWithN()) {
            int place = with(form, 'N', "~").indexOf('~');
            for (String n : fitting) {
                good(with(form, 'N', n), 1);
            }
            for (String n : others) {
                bad(with(form, 'N', n), 3, place);
                bad(with(form, 'N', "   " + n), 3, place + 3);
            }
        }
    }

    private static void intValues() {
        sentence("3: (word: an int");
        for (String n : new String[] {"0", "2147483646", "2147483647", "-2147483647", "-2147483648", "- 2147483648"}) {
            good("word " + n + ";", 1);
        }
        for (String n : new String[] {"2147483648", "2147483649", "4294967295", "4294967296", "4294967297", "9999999999",
            "-2147483649", "- 2147483649", "-4294967295", "-4294967296", "-9999999999"}) {
            bad("word " + n + ";", 3, 5);
            bad("halt;x:word   " + n + ";", 3, 14);
        }
    }

    private static void orgValues() {
        sentence("3: (org 0 .. 255");
        for (String n : new String[] {"0", "1", "254", "255", "0000000255"}) {
            good("org " + n + ";", 0);
        }
        for (String n : new String[] {"256", "257", "511", "512", "2047", "2048", "65536", "2147483647", "2147483648", "4294967296",
            "4294967297", "9999999999"}) {
            bad("org " + n + ";", 3, 4);
            bad("x:org   " + n + ";", 3, 8);
        }
        bad("org -0;", 1, 4);
        bad("org -1;", 1, 4);
        bad("x:org x;", 1, 6);
    }

    private static void coreValues() {
        sentence("3: (core 0 .. 3");
        for (String n : new String[] {"0", "1", "2", "3", "0000000003"}) {
            good("core " + n + ";", 0);
        }
        for (String n : new String[] {"4", "5", "7", "8", "255", "256", "2147483648", "4294967296", "4294967299", "9999999999"}) {
            bad("core " + n + ";", 3, 5);
            bad("x:core   " + n + ";", 3, 9);
        }
        bad("core -0;", 1, 5);
        bad("core -1;", 1, 5);
        bad("x:core x;", 1, 7);
    }

    private static void labelsFit() {
        sentence("3: an N .. that does not fit: no LABEL");
        for (String form : instructionsWithN()) {
            good(with(form, 'N', "x") + "org 255;halt;x:;", 2);
            good("x:;org 255;" + with(form, 'N', "x"), 1);
        }
        good("word x;org 255;halt;x:;", 2);
        laidAt("jal r1,x;org 255;halt;x:;", 0, op(16) | d(1) | 256);
        laidAt("x:;org 255;jal r1,x;", 255, op(16) | d(1) | (-255 & 0xFFF));
    }

    private static void beyond255() {
        sentence("3: an INSTRUCTION or word beyond 255: its NAME");
        for (String form : FORMS) {
            if (told(form) == 1) {
                String text = with(form, '~', "");
                good("org 254;" + text + text, 2);
                good("org 255;" + text, 1);
                bad("org 255;" + text + text, 3, 8 + text.length());
                bad("org 255;halt;" + text, 3, 13);
                bad("org 255;halt; x: y: " + text, 3, 20);
                bad("org 255;halt;" + text + text + text, 3, 13);
                bad("org 255;halt;" + text + "org 0;halt;", 3, 13);
            }
        }
        good("org 255;halt;org 0;halt;", 2);
        good("org 255;halt;core 1;", 1);
        good("org 255;halt;;x:;", 1);
        bad("org 255;halt;word 9999999999;", 3, 13);
        bad("org 255;halt;word q;", 3, 13);
        AsmDesk desk = showing("word 5;");
        write(desk, "org 255;word 6;word 7;");
        badDue(desk, "beyond 255", 3, 15);
        due("no wrap to 0", word(desk, 0), 5);
    }

    private static void labelAt256() {
        sentence("A LABEL may be 256");
        due("255", label(showing("org 255;x:;"), "x"), 255);
        due("256", label(showing("org 255;halt;x:;"), "x"), 256);
        due("256", label(showing("org 255;halt;x:y:org 0;halt;"), "y"), 256);
        laidAt("word x;org 255;halt;x:;", 0, 256);
        laidAt("org 255;halt;x:org 0;word x;", 0, 256);
        laidAt("org 255;word x;x:;", 255, 256);
        laidAt("org 255;jal r0,x;x:;", 255, op(16) | 1);
        bad("org 255;halt;x:halt;", 3, 15);
        bad("org 255;halt;x:x:;", 2, 15);
    }

    private static void behindAnOrgThatDoesNotFit() {
        sentence("Behind an org that does not fit 256 is the next address");
        bad("org 256;halt;", 3, 4);
        bad("org 256;x:word x;", 3, 4);
        bad("org 9999999999;x:jal r1,x;", 3, 4);
        bad("jal r1,x;org 9999999999;x:;", 3, 13);
        bad("addi r1,r2,x;org 4000;x:;", 3, 17);
        bad("word x;org 9999999999;x:;", 3, 11);
        bad("org 256;core 1;org 0;halt;", 3, 4);
        bad("org 256;org 256;", 3, 4);
        bad("x:org 256;x:;", 3, 6);
        bad("word q;org 256;halt;", 2, 5);
    }

    private static void leastPlace() {
        sentence("the least place of: 2, 3");
        String[] labels = {"word q;", "x:x:;", "jal r1,q;"};
        int[] labelPlaces = {5, 2, 7};
        String[] ranges = {"core 4;", "org 256;", "word 2147483648;", "addi r1,r2,-2049;", "org 255;halt;halt;"};
        int[] rangePlaces = {5, 4, 5, 11, 13};
        for (int i = 0; i < labels.length; i++) {
            for (int j = 0; j < ranges.length; j++) {
                bad(labels[i] + ranges[j], 2, labelPlaces[i]);
                bad(ranges[j] + labels[i], 3, rangePlaces[j]);
            }
        }
        bad("word q;x:x:;", 2, 5);
        bad("x:x:;word q;", 2, 2);
        bad("core 4;core 5;", 3, 5);
        bad("core 4;org 255;halt;halt;", 3, 5);
        bad("org 255;halt;halt;core 4;", 3, 13);
        bad("org 255;halt;x:x:halt;", 2, 15);
        bad("org 255;halt;addi r1,r2,2048;", 3, 13);
    }
}
