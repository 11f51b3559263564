import java.util.ArrayList;
import java.util.HashMap;
import java.util.List;
import java.util.Map;
import java.util.Random;
import java.util.regex.Matcher;
import java.util.regex.Pattern;

/** Made-up texts, good and spoilt, compared with a second assembler that works on regular expressions. */
public final class OracleTest extends Check {
    private static final String[] WORDS = ("halt addi add sub and or xor slt sll sra lui lw sw beq bne blt jal jalr "
        + "swap fadd fmax fence").split(" ");
    private static final Pattern TOKEN = Pattern.compile("([a-z][a-z0-9]*)|([0-9]+)|([:;,()-])|([^ ])");
    private static final int DESKS = 8000;
    // With all words read once, and a few behind the others, a desk stays within its 512 calls.
    private static final int TEXTS = 3;

    public static void main(String[] args) {
        Random random = new Random(20261115);
        int[] kinds = new int[4];
        for (int i = 0; i < DESKS; i++) {
            AsmDesk desk = new AsmDesk();
            Oracle shown = new Oracle("");
            for (int j = 0; j < TEXTS; j++) {
                String text = madeUp(random);
                Oracle oracle = new Oracle(text);
                kinds[oracle.kind]++;
                shown = oracle.kind == 0 ? oracle : shown;
                compare(desk, text, oracle, shown);
                compareWords(desk, text, shown, j == TEXTS - 1 ? 1 : 36);
            }
        }
        for (int kind = 0; kind < 4; kind++) {
            due("texts of kind " + kind + " are many", kinds[kind] > 1000 ? 1 : 0, 1);
        }
        finish();
    }

    private static void compare(AsmDesk desk, String text, Oracle latest, Oracle shown) {
        write(desk, text);
        due(text, assembled(desk), latest.kind == 0 ? latest.told : THROWN);
        due(text + " kind", desk.fault(0), latest.kind);
        due(text + " place", desk.fault(1), latest.place);
        due(text + " told", desk.told(), shown.told);
        for (int core = 0; core < 4; core++) {
            due(text + " start " + core, desk.start(core), shown.starts.getOrDefault(core, 0));
        }
        due(text + " labels", desk.labels(), shown.labels.size());
        for (String name : new String[] {"a", "b", "c1", "halt", "r3", "longer"}) {
            due(text + " " + name, label(desk, name), shown.labels.containsKey(name) ? shown.labels.get(name) : THROWN);
        }
    }

    private static void compareWords(AsmDesk desk, String text, Oracle shown, int step) {
        for (int k = 0; k < 256; k += step) {
            due(text + " word " + k, word(desk, k), shown.words.getOrDefault(k, 0));
        }
    }

    // Texts

    private static String madeUp(Random random) {
        List<String> unused = new ArrayList<>(List.of("a", "b", "c1", "halt", "r3", "longer"));
        StringBuilder text = new StringBuilder();
        int statements = random.nextInt(12);
        for (int i = 0; i < statements; i++) {
            while (random.nextInt(3) == 0 && !unused.isEmpty()) {
                String name = unused.get(random.nextInt(unused.size()));
                if (random.nextInt(12) != 0) {
                    unused.remove(name);
                }
                text.append(blank(random)).append(name).append(blank(random)).append(':');
            }
            if (random.nextInt(8) != 0) {
                text.append(blank(random)).append(order(random)).append(blank(random));
            }
            text.append(';');
        }
        if (random.nextInt(3) != 0) {
            // Else most texts would fail for a label that is none.
            for (String name : unused) {
                text.append(name).append(":;");
            }
        }
        if (random.nextInt(3) == 0) {
            spoil(random, text);
        }
        return text.length() > 480 ? text.substring(0, 480) : text.toString();
    }

    private static void spoil(Random random, StringBuilder text) {
        String signs = ":;,()- $Az9r~";
        int at = random.nextInt(text.length() + 1);
        int way = random.nextInt(4);
        if (way == 0) {
            text.setLength(at);
        } else if (way == 1 && at < text.length()) {
            text.deleteCharAt(at);
        } else if (way == 2 && at < text.length()) {
            text.setCharAt(at, signs.charAt(random.nextInt(signs.length())));
        } else {
            text.insert(at, signs.charAt(random.nextInt(signs.length())));
        }
    }

    private static String blank(Random random) {
        return " ".repeat(Math.max(0, random.nextInt(9) - 6));
    }

    private static String order(Random random) {
        int which = random.nextInt(30);
        if (which >= 27) {
            return "word " + value(random, Integer.MIN_VALUE, Integer.MAX_VALUE);
        }
        if (which >= 25) {
            return "org " + (random.nextInt(3) == 0 ? 250 + random.nextInt(7) : random.nextInt(256));
        }
        if (which >= 23) {
            return "core " + (random.nextInt(15) == 0 ? 4 : random.nextInt(4));
        }
        if (which == 22) {
            return "org 255;halt";
        }
        String word = WORDS[which];
        String form = Oracle.form(word).replace("N", value(random, -2048, 2047));
        StringBuilder order = new StringBuilder(word).append(' ');
        for (char c : form.toCharArray()) {
            order.append(c == 'R' ? "r" + random.nextInt(8) : String.valueOf(c));
            order.append(c == 'R' || c == ',' ? blank(random) : "");
        }
        return order.toString();
    }

    private static String value(Random random, long least, long most) {
        switch (random.nextInt(12)) {
            case 0:
                return String.valueOf(least - (random.nextInt(3) == 0 ? 1 : 0));
            case 1:
                return String.valueOf(most + (random.nextInt(3) == 0 ? 1 : 0));
            case 2:
                return "- " + random.nextInt(100);
            case 3:
            case 4:
                return String.valueOf(random.nextInt(300) - 150);
            default:
                return new String[] {"a", "b", "c1", "halt", "r3", "longer"}[random.nextInt(6)];
        }
    }

    /** The second assembler: syntax by one regular expression a statement, faults by a sorted choice. */
    private static final class Oracle {
        private static final String REGISTER = "r[0-7]";
        final Map<Integer, Integer> words = new HashMap<>();
        final Map<Integer, Integer> starts = new HashMap<>();
        final Map<String, Integer> labels = new HashMap<>();
        int kind = 0;
        int place = 0;
        int told = 0;
        private final List<String> tokens = new ArrayList<>();
        private final List<Integer> places = new ArrayList<>();
        private final int length;
        private int address = 0;

        Oracle(String text) {
            length = text.length();
            Matcher m = TOKEN.matcher(text);
            while (m.find()) {
                tokens.add(m.group());
                places.add(m.start());
            }
            int bad = firstBad();
            if (bad >= 0) {
                kind = 1;
                place = bad;
                return;
            }
            each(true);
            each(false);
        }

        static String form(String word) {
            switch (word) {
                case "halt":
                case "fence":
                    return "";
                case "addi":
                case "jalr":
                case "beq":
                case "bne":
                case "blt":
                    return "R,R,N";
                case "lui":
                case "jal":
                    return "R,N";
                case "lw":
                case "sw":
                    return "R,N(R)";
                case "swap":
                case "fadd":
                case "fmax":
                    return "R,R,(R)";
                default:
                    return "R,R,R";
            }
        }

        /** The place of the first token that no good text could go on with, or -1. */
        private int firstBad() {
            int i = 0;
            while (i < tokens.size()) {
                while (isName(i) && is(i + 1, ":")) {
                    i += 2;
                }
                if (isName(i)) {
                    String word = tokens.get(i);
                    String form = known(word);
                    if (form == null) {
                        return i + 1 < tokens.size() && !isToken(i + 1) ? placeOf(i + 1) : placeOf(i);
                    }
                    i++;
                    for (char c : form.toCharArray()) {
                        if (c == 'N' && is(i, "-")) {
                            i++;
                            c = 'U';
                        }
                        if (!stands(i, c)) {
                            return placeOf(i);
                        }
                        i++;
                    }
                }
                if (!is(i, ";")) {
                    return placeOf(i);
                }
                i++;
            }
            return -1;
        }

        private static String known(String word) {
            switch (word) {
                case "word":
                    return "N";
                case "org":
                case "core":
                    return "U";
                default:
                    return List.of(WORDS).contains(word) ? form(word) : null;
            }
        }

        private boolean stands(int i, char c) {
            switch (c) {
                case 'R':
                    return i < tokens.size() && tokens.get(i).matches(REGISTER);
                case 'N':
                    return isName(i) || isNumber(i);
                case 'U':
                    return isNumber(i);
                default:
                    return is(i, String.valueOf(c));
            }
        }

        private boolean isName(int i) {
            return i < tokens.size() && tokens.get(i).matches("[a-z][a-z0-9]{0,5}");
        }

        private boolean isNumber(int i) {
            return i < tokens.size() && tokens.get(i).matches("[0-9]{1,10}");
        }

        private boolean isToken(int i) {
            return isName(i) || isNumber(i) || tokens.get(i).matches("[:;,()-]");
        }

        private boolean is(int i, String token) {
            return i < tokens.size() && tokens.get(i).equals(token);
        }

        private int placeOf(int i) {
            return i < places.size() ? places.get(i) : length;
        }

        /** Every statement of a text without syntax faults; first for its labels, then for its words. */
        private void each(boolean forLabels) {
            address = 0;
            told = 0;
            int from = 0;
            for (int i = 0; i < tokens.size(); i++) {
                if (is(i, ";")) {
                    statement(from, i, forLabels);
                    from = i + 1;
                }
            }
        }

        private void statement(int from, int to, boolean forLabels) {
            int i = from;
            while (is(i + 1, ":")) {
                if (forLabels && labels.putIfAbsent(tokens.get(i), address) != null) {
                    note(2, i);
                }
                i += 2;
            }
            if (i == to) {
                return;
            }
            String text = String.join(" ", tokens.subList(i, to));
            String word = tokens.get(i);
            if (word.equals("org")) {
                long n = number(i + 1, 0, 255);
                address = n <= 255 ? (int) n : 256;
            } else if (word.equals("core")) {
                starts.put((int) number(i + 1, 0, 3), address > 255 ? 0 : address);
            } else {
                if (address > 255) {
                    note(3, i);
                }
                words.put(address, forLabels ? 0 : code(word, text, i));
                address++;
                told++;
            }
        }

        private int code(String word, String text, int i) {
            if (word.equals("word")) {
                return (int) value(i + 1, Integer.MIN_VALUE, Integer.MAX_VALUE, 0);
            }
            List<Integer> r = new ArrayList<>();
            for (int j = i + 1; !is(j, ";"); j++) {
                // A name that is no register's place is an N, even if it looks like a register.
                if (tokens.get(j).matches(REGISTER) && !isValue(word, i, j)) {
                    r.add(tokens.get(j).charAt(1) - '0');
                }
            }
            int number = List.of(WORDS).indexOf(word) << 24;
            boolean relative = text.matches("(beq|bne|blt|jal) .*");
            int n = 0;
            for (int j = i + 1; !is(j, ";"); j++) {
                if (isValue(word, i, j)) {
                    n = (int) value(j, -2048, 2047, relative ? address : 0) & 0xFFF;
                    break;
                }
            }
            String order = fields(word);
            int registers = 0;
            for (int j = 0; j < order.length(); j++) {
                registers += r.get(j) << (order.charAt(j) == 'd' ? 20 : order.charAt(j) == 'a' ? 16 : 12);
            }
            return number + registers + n;
        }

        private boolean isValue(String word, int first, int j) {
            int at = form(word).indexOf('N');
            return at >= 0 && j == first + 1 + at;
        }

        private static String fields(String word) {
            switch (word) {
                case "halt":
                case "fence":
                    return "";
                case "addi":
                case "jalr":
                case "lw":
                    return "da";
                case "lui":
                case "jal":
                    return "d";
                case "sw":
                    return "ba";
                case "beq":
                case "bne":
                case "blt":
                    return "ab";
                case "swap":
                case "fadd":
                case "fmax":
                    return "dba";
                default:
                    return "dab";
            }
        }

        private long value(int i, long least, long most, int origin) {
            if (isName(i)) {
                if (!labels.containsKey(tokens.get(i))) {
                    note(2, i);
                    return 0;
                }
                return labels.get(tokens.get(i)) - origin;
            }
            return number(i, least, most);
        }

        private long number(int i, long least, long most) {
            long n = is(i, "-") ? -Long.parseLong(tokens.get(i + 1)) : Long.parseLong(tokens.get(i));
            if (n < least || n > most) {
                note(3, i);
            }
            return n;
        }

        private void note(int newKind, int i) {
            if (kind == 0 || placeOf(i) * 4 + newKind < place * 4 + kind) {
                kind = newKind;
                place = placeOf(i);
            }
        }
    }
}
