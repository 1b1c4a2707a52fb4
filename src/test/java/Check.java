import java.nio.charset.StandardCharsets;

/** What the tests share: texts into objects, answers against those that are due, a kernel as a text. */
final class Check {
    static final int NONE = FlowReader.NONE;

    private static final String[] KINDS = {
        "?", "SKIP", "LOCAL", "SAME", "NUMBER", "ATOM", "RECORD", "PROCEDURE", "OPERATE", "EQUAL",
        "SELECT", "IF", "CASE", "APPLY", "THREAD", "TRY", "RAISE", "SHOW"
    };

    private int wrong;

    static long eight(byte[] bytes, int from) {
        long eight = 0;
        for (int i = 0; i < 8 && from + i < bytes.length; i++) {
            eight |= (bytes[from + i] & 255L) << (8 * i);
        }
        return eight;
    }

    static void putAll(FlowReader reader, String text) {
        byte[] bytes = text.getBytes(StandardCharsets.ISO_8859_1);
        for (int i = 0; i < bytes.length; i += 8) {
            reader.put(eight(bytes, i));
        }
    }

    /** A new object that has read the text. */
    static FlowReader after(String text) {
        FlowReader reader = new FlowReader();
        putAll(reader, text);
        reader.read();
        return reader;
    }

    void due(String what, Object got, Object want) {
        if (!got.equals(want)) {
            wrong++;
            System.out.println(what + "\n  answered " + got + "\n  due is   " + want);
        }
    }

    /** A fault of this kind is due at this place, and all that goes with a fault. */
    void dueFault(String text, int kind, int place) {
        FlowReader reader = new FlowReader();
        putAll(reader, text);
        String shown = text.length() > 200 ? text.substring(0, 200) + " .." : text;
        due("read of " + shown, reader.read(), NONE);
        due("fault of " + shown, reader.fault(0) + " at " + reader.fault(1), kind + " at " + place);
        due("counts of " + shown, counts(reader), "0 7 10");
        due("uses of " + shown, reader.uses(), 0);
    }

    /** The fault is due where the mark ^ stands in the text, which is taken out of it. */
    void dueFaultAtMark(String marked, int kind) {
        int place = marked.indexOf('^');
        dueFault(marked.substring(0, place) + marked.substring(place + 1), kind, place);
    }

    void dueNoFault(String text) {
        FlowReader reader = after(text);
        String shown = text.length() > 200 ? text.substring(0, 200) + " .." : text;
        due("fault of " + shown, reader.fault(0) + " at " + reader.fault(1), "0 at -1");
    }

    /** The last text that is still allowed, and the first that is not, with its fault at the mark. */
    void dueEdge(String allowed, String marked, int kind) {
        dueNoFault(allowed);
        dueFaultAtMark(marked, kind);
    }

    /** These statements are due, one a line, and the program's first one among them. */
    void dueKernel(String text, int first, String... lines) {
        FlowReader reader = new FlowReader();
        putAll(reader, text);
        due("read of " + text, reader.read(), first);
        due("fault of " + text, reader.fault(0), 0);
        StringBuilder want = new StringBuilder();
        for (int i = 0; i < lines.length; i++) {
            want.append("\n    ").append(i).append(' ').append(lines[i]);
        }
        due("kernel of " + text, kernel(reader), want.toString());
    }

    static String counts(FlowReader reader) {
        return reader.count(0) + " " + reader.count(1) + " " + reader.count(2);
    }

    static String kernel(FlowReader reader) {
        StringBuilder all = new StringBuilder();
        for (int s = 0; s < reader.count(0); s++) {
            all.append("\n    ").append(s).append(' ').append(statement(reader, s));
        }
        return all.toString();
    }

    /** Kind, x, a, b, items and the statement behind; what is NONE is left out. */
    static String statement(FlowReader reader, int s) {
        StringBuilder one = new StringBuilder(KINDS[reader.node(s, 0)]);
        String parts = "-xab";
        for (int what = 1; what <= 3; what++) {
            if (reader.node(s, what) != NONE) {
                one.append(' ').append(parts.charAt(what)).append(reader.node(s, what));
            }
        }
        for (int i = 0; i < reader.node(s, 5); i++) {
            one.append(i == 0 ? " [" : " ").append(reader.item(s, i));
        }
        if (reader.node(s, 5) > 0) {
            one.append(']');
        }
        if (reader.node(s, 4) != NONE) {
            one.append(" > ").append(reader.node(s, 4));
        }
        return one.toString();
    }

    static String atom(FlowReader reader, int t) {
        StringBuilder name = new StringBuilder();
        for (int k = 0; reader.atomByte(t, k) != NONE; k++) {
            name.append((char) reader.atomByte(t, k));
        }
        return name.toString();
    }

    static String name(FlowReader reader, int v) {
        StringBuilder name = new StringBuilder();
        for (int k = 0; reader.nameByte(v, k) != NONE; k++) {
            name.append((char) reader.nameByte(v, k));
        }
        return name.toString();
    }

    /** All that the last reading made, in one text. */
    static String all(FlowReader reader) {
        StringBuilder all = new StringBuilder(kernel(reader));
        all.append("\n    fault ").append(told(reader));
        all.append(" uses ").append(reader.uses()).append("\n    ").append(counts(reader));
        for (int t = 0; t < reader.count(2); t++) {
            all.append(' ').append(atom(reader, t));
        }
        for (int v = 0; v < reader.count(1); v++) {
            all.append(' ').append(name(reader, v));
        }
        return all.toString();
    }

    /** The fault's kind, place, line and column. */
    static String told(FlowReader reader) {
        return reader.fault(0) + " " + reader.fault(1) + " " + reader.fault(2) + " " + reader.fault(3);
    }

    static String many(String part, int times) {
        return part.repeat(times);
    }

    /** The name with 1 behind it, with 2, and so on up to n. */
    static String numbered(String name, int n) {
        return numbered(name, n, "");
    }

    static String numbered(String name, int n, String behind) {
        StringBuilder all = new StringBuilder();
        for (int i = 1; i <= n; i++) {
            all.append(i == 1 ? "" : " ").append(name).append(i).append(behind);
        }
        return all.toString();
    }

    static boolean isLetter(int b) {
        return b >= 65 && b <= 90 || b >= 97 && b <= 122;
    }

    static boolean isDigit(int b) {
        return b >= 48 && b <= 57;
    }

    static boolean isNamePart(int b) {
        return isLetter(b) || isDigit(b) || b == 95;
    }

    void end() {
        if (wrong > 0) {
            System.exit(1);
        }
    }
}
