import java.util.Arrays;
import java.util.NoSuchElementException;

/** An assembler for cores of 256 words: labels ahead and behind, values that must fit, places of faults. */
public final class AsmDesk {
    public static final int NONE = -1;

    private final Tape tape;
    private final Assembler assembler;
    private Program good;

    public AsmDesk() {
        tape = new Tape();
        assembler = new Assembler();
        good = new Program();
    }

    public boolean type(long word, int n) {
        return tape.append(word, n);
    }

    public int assemble() throws IllegalArgumentException {
        boolean fine = assembler.run(tape);
        tape.clear();
        if (!fine) {
            throw new IllegalArgumentException("the text has a fault");
        }
        good = assembler.exchange(good);
        return good.count;
    }

    public int fault(int what) {
        if (what == 0) {
            return assembler.fault.kind;
        }
        return what == 1 ? assembler.fault.place : NONE;
    }

    public int word(int k) throws IndexOutOfBoundsException {
        if (k < 0 || k >= Program.SIZE) {
            throw new IndexOutOfBoundsException("no such address");
        }
        return good.words[k];
    }

    public int start(int core) throws IndexOutOfBoundsException {
        if (core < 0 || core >= Program.CORES) {
            throw new IndexOutOfBoundsException("no such core");
        }
        return good.starts[core];
    }

    public int labels() {
        return good.labelCount;
    }

    public int label(long name) throws NoSuchElementException {
        int address = good.addressOf(name);
        if (address == NONE) {
            throw new NoSuchElementException("no such label");
        }
        return address;
    }

    public int told() {
        return good.count;
    }

    /** The characters that wait to be assembled. */
    private static final class Tape {
        static final int LIMIT = 480;
        private static final int FIRST = 32;
        private static final int LAST = 126;

        private final byte[] characters = new byte[LIMIT];
        private int length = 0;

        boolean append(long word, int n) {
            if (n < 1 || n > 8 || length + n > LIMIT || !allTypable(word, n)) {
                return false;
            }
            for (int i = n - 1; i >= 0; i--) {
                characters[length] = (byte) byteOf(word, i);
                length++;
            }
            return true;
        }

        private static boolean allTypable(long word, int n) {
            for (int i = 0; i < n; i++) {
                int c = byteOf(word, i);
                if (c < FIRST || c > LAST) {
                    return false;
                }
            }
            return true;
        }

        private static int byteOf(long word, int i) {
            return (int) (word >>> (8 * i)) & 255;
        }

        /** The character at a place, or NONE where the tape has none. */
        int at(int place) {
            return place < 0 || place >= length ? NONE : characters[place];
        }

        int length() {
            return length;
        }

        void clear() {
            length = 0;
        }
    }

    /** The tape's tokens in their order, with an END behind the last one. */
    private static final class Tokens {
        // A sign's kind is its own character; these lie below all characters.
        static final int END = 0;
        static final int BAD = 1;
        static final int NAME = 2;
        static final int NUMBER = 3;
        private static final int LONGEST_NAME = 6;
        private static final int LONGEST_NUMBER = 10;
        private static final int MOST = Tape.LIMIT;

        private final int[] kinds = new int[MOST];
        private final int[] places = new int[MOST];
        private final long[] values = new long[MOST];
        private int size = 0;
        private int tapeLength = 0;
        private int next = 0;

        void scan(Tape tape) {
            size = 0;
            next = 0;
            tapeLength = tape.length();
            for (int i = 0; i < Tape.LIMIT && next < tapeLength; i++) {
                int c = tape.at(next);
                if (c == ' ') {
                    next++;
                } else if (isLetter(c)) {
                    scanName(tape);
                } else if (isDigit(c)) {
                    scanNumber(tape);
                } else {
                    next++;
                    add(isSign(c) ? c : BAD, next - 1, 0);
                }
            }
        }

        private void scanName(Tape tape) {
            int place = next;
            long name = 0;
            while (next < tapeLength && (isLetter(tape.at(next)) || isDigit(tape.at(next)))) {
                name = name << 8 | tape.at(next);
                next++;
            }
            add(next - place <= LONGEST_NAME ? NAME : BAD, place, name);
        }

        private void scanNumber(Tape tape) {
            int place = next;
            long number = 0;
            while (next < tapeLength && isDigit(tape.at(next))) {
                number = number * 10 + (tape.at(next) - '0');
                next++;
            }
            add(next - place <= LONGEST_NUMBER ? NUMBER : BAD, place, number);
        }

        private void add(int kind, int place, long value) {
            if (size < MOST) {
                kinds[size] = kind;
                places[size] = place;
                values[size] = value;
                size++;
            }
        }

        int kind(int i) {
            return i >= 0 && i < size && i < MOST ? kinds[i] : END;
        }

        int place(int i) {
            return i >= 0 && i < size && i < MOST ? places[i] : tapeLength;
        }

        /** A name's letters as bytes, the last one lowest; a number's value; else 0. */
        long value(int i) {
            return i >= 0 && i < size && i < MOST ? values[i] : 0;
        }

        private static boolean isLetter(int c) {
            return c >= 'a' && c <= 'z';
        }

        private static boolean isDigit(int c) {
            return c >= '0' && c <= '9';
        }

        private static boolean isSign(int c) {
            return c == ':' || c == ';' || c == ',' || c == '(' || c == ')' || c == '-';
        }
    }

    /**
     * What a statement may order. The form names the parts behind the word: d, a, b are registers,
     * n is an N, o an N whose label counts from the instruction, u a number; others are signs.
     */
    private enum Order {
        HALT("halt", 0, ""),
        ADDI("addi", 1, "d,a,n"),
        ADD("add", 2, "d,a,b"),
        SUB("sub", 3, "d,a,b"),
        AND("and", 4, "d,a,b"),
        OR("or", 5, "d,a,b"),
        XOR("xor", 6, "d,a,b"),
        SLT("slt", 7, "d,a,b"),
        SLL("sll", 8, "d,a,b"),
        SRA("sra", 9, "d,a,b"),
        LUI("lui", 10, "d,n"),
        LW("lw", 11, "d,n(a)"),
        SW("sw", 12, "b,n(a)"),
        BEQ("beq", 13, "a,b,o"),
        BNE("bne", 14, "a,b,o"),
        BLT("blt", 15, "a,b,o"),
        JAL("jal", 16, "d,o"),
        JALR("jalr", 17, "d,a,n"),
        SWAP("swap", 18, "d,b,(a)"),
        FADD("fadd", 19, "d,b,(a)"),
        FMAX("fmax", 20, "d,b,(a)"),
        FENCE("fence", 21, ""),
        WORD("word", "n", -2147483648, 2147483647),
        ORG("org", "u", 0, Program.SIZE - 1),
        CORE("core", "u", 0, Program.CORES - 1);

        private static final Order[] ALL = values();

        private final long spelling;
        final int number;
        final String form;
        private final int least;
        private final int most;

        Order(String text, int number, String form) {
            this.spelling = packed(text);
            this.number = number;
            this.form = form;
            this.least = -2048;
            this.most = 2047;
        }

        Order(String text, String form, int least, int most) {
            this.spelling = packed(text);
            this.number = 0;
            this.form = form;
            this.least = least;
            this.most = most;
        }

        private static long packed(String text) {
            long letters = 0;
            for (int i = 0; i < text.length(); i++) {
                letters = letters << 8 | text.charAt(i);
            }
            return letters;
        }

        /** Null if there is none. */
        static Order spelled(long letters) {
            for (int i = 0; i < ALL.length; i++) {
                if (ALL[i].spelling == letters) {
                    return ALL[i];
                }
            }
            return null;
        }

        boolean fits(long value) {
            return value >= least && value <= most;
        }
    }

    /** What a text tells: words, where the cores begin, labels. */
    private static final class Program {
        static final int SIZE = 256;
        static final int CORES = 4;
        // A label takes two characters at the least.
        private static final int MOST_LABELS = Tape.LIMIT / 2;

        final int[] words = new int[SIZE];
        final int[] starts = new int[CORES];
        private final long[] names = new long[MOST_LABELS];
        private final int[] addresses = new int[MOST_LABELS];
        int labelCount = 0;
        int count = 0;

        void clear() {
            Arrays.fill(words, 0);
            Arrays.fill(starts, 0);
            labelCount = 0;
            count = 0;
        }

        void put(int address, int content) {
            if (address >= 0 && address < SIZE) {
                words[address] = content;
            }
        }

        void begin(int core, int address) {
            if (core >= 0 && core < CORES) {
                starts[core] = address < SIZE ? address : 0;
            }
        }

        /** False if the label was there before. */
        boolean add(long name, int address) {
            if (addressOf(name) != NONE || labelCount >= MOST_LABELS) {
                return false;
            }
            names[labelCount] = name;
            addresses[labelCount] = address;
            labelCount++;
            return true;
        }

        int addressOf(long name) {
            for (int i = 0; i < labelCount && i < MOST_LABELS; i++) {
                if (names[i] == name) {
                    return addresses[i];
                }
            }
            return NONE;
        }
    }

    /** The one fault that counts of all that a text has. */
    private static final class Fault {
        static final int SYNTAX = 1;
        static final int LABEL = 2;
        static final int RANGE = 3;

        int kind = 0;
        int place = 0;

        void clear() {
            kind = 0;
            place = 0;
        }

        /** Goes before all other faults, wherever they are; false, for the reader that ends with it. */
        boolean refuse(int where) {
            kind = SYNTAX;
            place = where;
            return false;
        }

        void note(int newKind, int where) {
            if (kind == 0 || where < place || where == place && newKind < kind) {
                kind = newKind;
                place = where;
            }
        }
    }

    /**
     * Goes over the tokens twice, since a label may be used ahead of its place: the survey finds the
     * labels and all syntax faults, the second pass lays the words. (Words that are patched when a
     * label comes up would go wrong where an address is told twice.)
     */
    private static final class Assembler {
        private static final long FIRST_REGISTER = 'r' << 8 | '0';
        private static final int REGISTERS = 8;
        private static final int VALUE_MASK = 0xFFF;

        final Fault fault = new Fault();
        private final Tokens tokens = new Tokens();
        private Program draft = new Program();
        private boolean survey = false;
        private int cursor = 0;
        private int nextAddress = 0;
        private int registers = 0;
        private long value = 0;

        /** Makes the draft from the tape's text; false if it has a fault. */
        boolean run(Tape tape) {
            fault.clear();
            draft.clear();
            tokens.scan(tape);
            if (pass(true)) {
                pass(false);
            }
            return fault.kind == 0;
        }

        /** Gives the draft away for a program that is free to be written over. */
        Program exchange(Program former) {
            Program made = draft;
            draft = former;
            return made;
        }

        /** False at a syntax fault. */
        private boolean pass(boolean isSurvey) {
            survey = isSurvey;
            cursor = 0;
            nextAddress = 0;
            draft.count = 0;
            for (int i = 0; i < Tape.LIMIT && tokens.kind(cursor) != Tokens.END; i++) {
                readLabels();
                if (tokens.kind(cursor) == Tokens.NAME && !readOrder()) {
                    return false;
                }
                if (!readSign(';')) {
                    return false;
                }
            }
            return true;
        }

        private void readLabels() {
            for (int i = 0; i < Tape.LIMIT && atLabel(); i++) {
                if (survey && !draft.add(tokens.value(cursor), nextAddress)) {
                    fault.note(Fault.LABEL, tokens.place(cursor));
                }
                cursor += 2;
            }
        }

        private boolean atLabel() {
            return tokens.kind(cursor) == Tokens.NAME && tokens.kind(cursor + 1) == ':';
        }

        private boolean readOrder() {
            int place = tokens.place(cursor);
            Order order = Order.spelled(tokens.value(cursor));
            cursor++;
            if (order == null) {
                // What is behind the name is read first: if it is no token, the fault is there.
                boolean bad = tokens.kind(cursor) == Tokens.BAD;
                return fault.refuse(bad ? tokens.place(cursor) : place);
            }
            registers = 0;
            value = 0;
            for (int i = 0; i < order.form.length(); i++) {
                if (!readPart(order, order.form.charAt(i))) {
                    return false;
                }
            }
            carryOut(order, place);
            return true;
        }

        private boolean readPart(Order order, char part) {
            switch (part) {
                case 'd':
                    return readRegister(20);
                case 'a':
                    return readRegister(16);
                case 'b':
                    return readRegister(12);
                case 'n':
                    return readLabel(0) || readNumber(order, true);
                case 'o':
                    return readLabel(nextAddress) || readNumber(order, true);
                case 'u':
                    return readNumber(order, false);
                default:
                    return readSign(part);
            }
        }

        private boolean readSign(char sign) {
            if (tokens.kind(cursor) != sign) {
                return fault.refuse(tokens.place(cursor));
            }
            cursor++;
            return true;
        }

        private boolean readRegister(int shift) {
            long register = tokens.value(cursor) - FIRST_REGISTER;
            if (tokens.kind(cursor) != Tokens.NAME || register < 0 || register >= REGISTERS) {
                return fault.refuse(tokens.place(cursor));
            }
            registers |= (int) register << shift;
            cursor++;
            return true;
        }

        /**
         * False if there is no name here, which is no fault yet. A label's value always fits:
         * addresses, and what lies between two of them, are within 2047.
         */
        private boolean readLabel(int origin) {
            if (tokens.kind(cursor) != Tokens.NAME) {
                return false;
            }
            int found = draft.addressOf(tokens.value(cursor));
            if (!survey && found == NONE) {
                fault.note(Fault.LABEL, tokens.place(cursor));
            }
            value = found - origin;
            cursor++;
            return true;
        }

        private boolean readNumber(Order order, boolean minusAllowed) {
            int place = tokens.place(cursor);
            boolean minus = minusAllowed && tokens.kind(cursor) == '-';
            if (minus) {
                cursor++;
            }
            if (tokens.kind(cursor) != Tokens.NUMBER) {
                return fault.refuse(tokens.place(cursor));
            }
            value = minus ? -tokens.value(cursor) : tokens.value(cursor);
            if (!order.fits(value)) {
                fault.note(Fault.RANGE, place);
            }
            cursor++;
            return true;
        }

        private void carryOut(Order order, int place) {
            if (order == Order.ORG) {
                nextAddress = order.fits(value) ? (int) value : Program.SIZE;
            } else if (order == Order.CORE) {
                draft.begin(order.fits(value) ? (int) value : NONE, nextAddress);
            } else if (order == Order.WORD) {
                lay((int) value, place);
            } else {
                lay(order.number << 24 | registers | (int) value & VALUE_MASK, place);
            }
        }

        private void lay(int content, int place) {
            if (nextAddress >= Program.SIZE) {
                fault.note(Fault.RANGE, place);
            } else if (!survey) {
                draft.put(nextAddress, content);
            }
            nextAddress++;
            draft.count++;
        }
    }
}
