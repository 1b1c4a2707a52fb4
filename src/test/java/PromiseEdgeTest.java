import java.nio.charset.StandardCharsets;

/** The edges of promises 1 to 11, a method a sentence. */
public final class PromiseEdgeTest {
    private static final Check CHECK = new Check();
    private static final int LEAST = Integer.MIN_VALUE;
    private static final int GREATEST = Integer.MAX_VALUE;
    private static final String BASIS = "Wait Needed ByNeed NewCell Exchange NewPort Send";
    private static final String ATOMS = "true false nil | nomatch failure zero kind arity feature";

    public static void main(String[] args) {
        fiveHundredAndTwelveCalls();
        newObject();
        putUpToTheFirstZero();
        putAtTheEnd();
        putHowManyItHas();
        putFull();
        putFullChangesNothing();
        cutToTheFirstBytes();
        cutRefused();
        readTheFirstStatement();
        readWithAFault();
        readAgain();
        readBehindAFaultInTheDepth();
        readManyTimes();
        faultOfTheLastReading();
        faultKinds();
        faultPlaces();
        faultOfAnotherWhat();
        countOfEach();
        countOfAnotherWhat();
        nodeOfNoStatement();
        nodeOfAnotherWhat();
        itemWhenThereIsNone();
        atomByteWhenThereIsNone();
        nameByteWhenThereIsNone();
        usesOfCells();
        usesOfTries();
        usesBehindAFault();
        CHECK.end();
    }

    /** "An object is used for at most 512 calls after it has been made" */
    private static void fiveHundredAndTwelveCalls() {
        FlowReader reader = new FlowReader();
        for (int i = 1; i <= 510; i++) {
            due("call " + i, reader.put(0x2020202020202020L), 8 * i);
        }
        due("call 511", reader.put('X'), 4081);
        due("call 512", reader.read(), -1);
        FlowReader other = new FlowReader();
        other.put(0x70696B73L);
        for (int i = 2; i <= 511; i++) {
            due("call " + i, other.read(), 0);
        }
        due("call 512", other.count(0), 1);
    }

    /** "No text was read: no statements, atoms 0 to 9, variables 0 to 6." */
    private static void newObject() {
        FlowReader reader = new FlowReader();
        due("counts", Check.counts(reader), "0 7 10");
        due("bytes", reader.count(3), 0);
        due("fault", Check.told(reader), "0 -1 -1 -1");
        due("uses", reader.uses(), 0);
        for (int what = 0; what <= 5; what++) {
            due("node(0, " + what + ")", reader.node(0, what), -1);
        }
        due("item", reader.item(0, 0), LEAST);
        beginning(reader);
    }

    private static void beginning(FlowReader reader) {
        String[] atoms = ATOMS.split(" ");
        for (int t = 0; t < atoms.length; t++) {
            due("atom " + t, Check.atom(reader, t), atoms[t]);
        }
        due("atom 10", reader.atomByte(10, 0), -1);
        String[] basis = BASIS.split(" ");
        for (int v = 0; v < basis.length; v++) {
            due("variable " + v, Check.name(reader, v), basis[v]);
        }
        due("variable 7", reader.nameByte(7, 0), -1);
    }

    /** "The bytes of eight, the lowest first, up to the first that is 0" */
    private static void putUpToTheFirstZero() {
        for (int n = 0; n <= 8; n++) {
            long eight = n == 8 ? -1L : (1L << (8 * n)) - 1;
            due("put of " + n + " bytes 255", new FlowReader().put(eight), n);
            if (n < 7) {
                due("put of " + n + " bytes and some behind a 0", new FlowReader().put(eight | -1L << (8 * n + 8)), n);
            }
        }
        due("put of the least", new FlowReader().put(Long.MIN_VALUE), 0);
        due("put of the greatest", new FlowReader().put(Long.MAX_VALUE), 8);
        FlowReader reader = new FlowReader();
        reader.put(0x6867666564636261L);
        reader.cut(8);
        Check.putAll(reader, "=Wait");
        reader.read();
        due("the lowest first", Check.atom(reader, 10), "abcdefgh");
    }

    /** "come to the end of the text" */
    private static void putAtTheEnd() {
        FlowReader reader = new FlowReader();
        for (String one : new String[] {"sh", "ow", " ", "", "a", "bcdefgh", "ijklmnop", "q"}) {
            reader.put(Check.eight(one.getBytes(StandardCharsets.ISO_8859_1), 0));
        }
        reader.read();
        due("pieces are one text", Check.atom(reader, 10), "abcdefghijklmnopq");
        reader.put('r');
        due("the last reading stays", Check.atom(reader, 10), "abcdefghijklmnopq");
        reader.read();
        due("a byte more", Check.atom(reader, 10), "abcdefghijklmnopqr");
    }

    /** "how many it has" */
    private static void putHowManyItHas() {
        FlowReader reader = new FlowReader();
        due("none", reader.put(0), 0);
        due("one", reader.put(32), 1);
        due("none more", reader.put(0), 1);
        due("eight more", reader.put(0x2020202020202020L), 9);
        reader.cut(4);
        due("behind a cut", reader.put(0x2020), 6);
    }

    /** "FULL .. when it would have more than 8,192" */
    private static void putFull() {
        for (int more = 1; more <= 8; more++) {
            long eight = 0x2020202020202020L >>> (64 - 8 * more);
            FlowReader reader = withBytes(8192 - more);
            due(more + " up to 8,192", reader.put(eight), 8192);
            due(more + " up to 8,192, then none", reader.put(0), 8192);
            due(more + " up to 8,192, then one", reader.put(32), FlowReader.FULL);
            reader = withBytes(8193 - more);
            due(more + " up to 8,193", reader.put(eight), FlowReader.FULL);
            due("bytes", reader.count(3), 8193 - more);
        }
    }

    /** "and nothing changes" */
    private static void putFullChangesNothing() {
        FlowReader reader = withBytes(8186);
        Check.putAll(reader, "skip");
        reader.read();
        String before = Check.all(reader);
        due("eight more", reader.put(0x6161616161616161L), FlowReader.FULL);
        due("bytes", reader.count(3), 8190);
        due("what was read", Check.all(reader), before);
        reader.read();
        due("what is read", Check.all(reader), before);
        due("two more", reader.put(0x2020), 8192);
        reader.read();
        due("what is read then", Check.all(reader), before);
    }

    /** "The text has its first n bytes alone: n." */
    private static void cutToTheFirstBytes() {
        String text = "show abcd";
        for (int n = 0; n <= text.length(); n++) {
            FlowReader reader = new FlowReader();
            Check.putAll(reader, text);
            due("cut(" + n + ")", reader.cut(n), n);
            due("bytes", reader.count(3), n);
            reader.read();
            due("reading", Check.all(reader), Check.all(Check.after(text.substring(0, n))));
            due("a byte behind", reader.put('X'), n + 1);
            reader.read();
            due("reading", Check.all(reader), Check.all(Check.after(text.substring(0, n) + "X")));
        }
        FlowReader full = withBytes(8192);
        due("cut to 8,192", full.cut(8192), 8192);
        due("cut to 8,191", full.cut(8191), 8191);
        due("cut to 8,192 then", full.cut(8192), -1);
    }

    /** "NONE, refused, when it has not so many." */
    private static void cutRefused() {
        FlowReader empty = new FlowReader();
        due("cut(0) of none", empty.cut(0), 0);
        due("cut(1) of none", empty.cut(1), -1);
        FlowReader reader = Check.after("show a");
        String before = Check.all(reader);
        for (int n : new int[] {7, 8, 8192, 8193, GREATEST, -1, -2, LEAST}) {
            due("cut(" + n + ") of 6", reader.cut(n), -1);
            due("bytes", reader.count(3), 6);
            due("what was read", Check.all(reader), before);
        }
        reader.read();
        due("what is read", Check.all(reader), before);
        due("cut(6) of 6", reader.cut(6), 6);
        due("cut(5) of 6", reader.cut(5), 5);
        due("cut(6) of 5", reader.cut(6), -1);
    }

    /** "the first statement of the program" */
    private static void readTheFirstStatement() {
        first("skip", 0);
        first("skip skip", 0);
        first("show 1", 2);
        first("show 1 skip", 2);
        first("local X in show X end skip", 1);
        first("_ = Wait show 1", 2);
        first("_ = Wait", -1);
        due("no statement is no fault", Check.told(Check.after("_ = Wait")), "0 -1 -1 -1");
    }

    private static void first(String text, int want) {
        FlowReader reader = new FlowReader();
        Check.putAll(reader, text);
        due("read of " + text, reader.read(), want);
    }

    /** "NONE when it has a fault; then there are no statements, and atoms and variables are .." */
    private static void readWithAFault() {
        for (String text : new String[] {"local X in show abc", "show abc !", "", "local X in abc = X end X"}) {
            FlowReader reader = Check.after("local A B in A = f(g h) show B end");
            reader.cut(0);
            Check.putAll(reader, text);
            due("read of " + text, reader.read(), -1);
            due("counts", Check.counts(reader), "0 7 10");
            due("node", reader.node(0, 0), -1);
            due("item", reader.item(1, 0), LEAST);
            beginning(reader);
        }
    }

    /** A reading begins anew: the same text twice, and another behind it. */
    private static void readAgain() {
        FlowReader reader = Check.after("local A in A = f(b:1 a:2) end");
        String before = Check.all(reader);
        reader.read();
        due("the same text", Check.all(reader), before);
        reader.put('!');
        reader.read();
        due("with a fault", Check.told(reader), "1 29 1 30");
        reader.cut(29);
        reader.read();
        due("the same text behind a fault", Check.all(reader), before);
    }

    /** What a fault left open does not count for the next reading. */
    private static void readBehindAFaultInTheDepth() {
        String deepest = "show " + Check.many("(", 24) + "1" + Check.many(")", 24);
        String[] left = {
            "show " + Check.many("(", 25), "local A in show [Wait f(", "show fun {A} case A of B|C then do", "try",
            "local " + Check.numbered("V", 33), "show f(" + Check.numbered("a", 32, ":1") + " a1:1)",
        };
        FlowReader reader = new FlowReader();
        for (String text : left) {
            readOf(reader, text);
            readOf(reader, deepest);
            due("the deepest behind " + text, Check.all(reader), Check.all(Check.after(deepest)));
            readOf(reader, text);
            due("the same fault again", Check.told(reader), Check.told(Check.after(text)));
            readOf(reader, "show [A B C]");
            due("what was bound is so no more", Check.told(reader), "13 6 1 7");
        }
    }

    private static void readOf(FlowReader reader, String text) {
        reader.cut(0);
        Check.putAll(reader, text);
        reader.read();
    }

    /** As many readings as an object's 512 calls allow use up nothing. */
    private static void readManyTimes() {
        String[] texts = {
            "show [" + Check.many("1 ", 600) + "]", "show f(" + Check.many("Wait ", 32) + ")" + Check.many(".a", 300),
            "local " + Check.numbered("V", 32) + " in show V1" + Check.many("+V32", 200) + " end",
            "case 1 " + Check.many("of f(A B) then show A ", 60) + "end",
            Check.many("{Wait proc {A} skip end} ", 100), "show [" + Check.numbered("a", 380) + "]",
            "show [" + Check.numbered("a", 380) + " !",
        };
        for (String text : texts) {
            FlowReader reader = new FlowReader();
            Check.putAll(reader, text);
            int first = reader.read();
            String before = Check.all(reader);
            for (int i = 0; i < 100; i++) {
                due("the first statement again", reader.read(), first);
            }
            due("the last of many readings", Check.all(reader), before);
        }
    }

    /** "The fault of the last reading": not of the text, nor of one before. */
    private static void faultOfTheLastReading() {
        FlowReader reader = new FlowReader();
        Check.putAll(reader, "skip\n X");
        due("before any reading", Check.told(reader), "0 -1 -1 -1");
        reader.read();
        due("behind it", Check.told(reader), "13 6 2 2");
        reader.cut(0);
        due("the text is gone, the fault is not", Check.told(reader), "13 6 2 2");
        Check.putAll(reader, "\n\n\n\n\n\n\n\nskip");
        due("another text, but no reading", Check.told(reader), "13 6 2 2");
        reader.read();
        due("a reading without a fault", Check.told(reader), "0 -1 -1 -1");
        reader.put('X');
        due("a text with a fault, but no reading", Check.told(reader), "0 -1 -1 -1");
    }

    /** "what = 0 its kind (of tokens 1 .. 5, of syntax 11 .. 17), 0 for none" */
    private static void faultKinds() {
        String[] texts = {"skip", "!", "show aaaaaaaaaaaaaaaaaaaaaaaaa", "show 2147483648", "show 1a"};
        for (int kind = 0; kind < texts.length; kind++) {
            due("fault of " + texts[kind], Check.after(texts[kind]).fault(0), kind);
        }
        due("fault of many tokens", Check.after(Check.many("skip ", 1501)).fault(0), 5);
        String[] others = {
            "end", "show f(a:1 a:2)", "X", "local X X in skip end", "show " + Check.many("(", 25),
            "show f(" + Check.many("1 ", 33), "show Wait.33",
        };
        for (int i = 0; i < others.length; i++) {
            due("fault of " + others[i], Check.after(others[i]).fault(0), 11 + i);
        }
    }

    /** "1 its place in the text, 2 its line, 3 its column, both from 1" */
    private static void faultPlaces() {
        place("X", "13 0 1 1");
        place("", "11 0 1 1");
        place(" ", "11 1 1 2");
        place("\n", "11 1 2 1");
        place("skip X", "13 5 1 6");
        place("skip\nX", "13 5 2 1");
        place("skip\n\nX", "13 6 3 1");
        place("skip\r\nX", "13 6 2 1");
        place("skip\rX", "13 5 1 6");
        place("skip\tX", "13 5 1 6");
        place("% a\n  % b\n   X", "13 13 3 4");
        place("% \u00ff\u00ff\nX", "13 5 2 1");
        place("skip % no end", "0 -1 -1 -1");
        place("show % no end", "11 13 1 14");
        place("show % end\n", "11 11 2 1");
        place("show abc.\n33 ", "17 10 2 1");
        place("X\nskip", "13 0 1 1");
        place("\n X \n\n skip\n", "13 2 2 2");
        place("skip\n!\n!", "1 5 2 1");
        place(Check.many("\n", 4000) + "X", "13 4000 4001 1");
        place(Check.many(" ", 4000) + "X", "13 4000 1 4001");
    }

    private static void place(String text, String want) {
        due("fault of " + text, Check.told(Check.after(text)), want);
    }

    /** "NONE for another what." */
    private static void faultOfAnotherWhat() {
        for (FlowReader reader : new FlowReader[] {new FlowReader(), Check.after("skip"), Check.after("X")}) {
            for (int what : new int[] {-1, 4, 5, -2, LEAST, GREATEST}) {
                due("fault(" + what + ")", reader.fault(what), -1);
            }
        }
        FlowReader faulty = Check.after(" X");
        due("fault(0)", faulty.fault(0), 13);
        due("fault(3)", faulty.fault(3), 2);
    }

    /** "How many statements there are (what = 0), variables (1), atoms (2), bytes of the text (3)." */
    private static void countOfEach() {
        due("of an empty text", all(new FlowReader()), "0 7 10 0");
        due("of a statement", all(Check.after("skip")), "1 7 10 4");
        due("of more", all(Check.after("local X in X = f(a) end")), "4 9 12 23");
        FlowReader reader = Check.after("local X in X = f(a) end");
        reader.put('!');
        due("bytes at once, the others not", all(reader), "4 9 12 24");
        reader.read();
        due("behind a fault", all(reader), "0 7 10 24");
    }

    private static String all(FlowReader reader) {
        return Check.counts(reader) + " " + reader.count(3);
    }

    /** "NONE for another what." */
    private static void countOfAnotherWhat() {
        for (FlowReader reader : new FlowReader[] {new FlowReader(), Check.after("skip"), Check.after("X")}) {
            for (int what : new int[] {-1, 4, 5, -2, LEAST, GREATEST}) {
                due("count(" + what + ")", reader.count(what), -1);
            }
        }
    }

    /** "NONE when there is none" */
    private static void nodeOfNoStatement() {
        FlowReader reader = Check.after("show 1 skip");
        due("the first", reader.node(0, 0), 4);
        due("the last", reader.node(3, 0), 1);
        for (int s : new int[] {-1, 4, 5, 3199, 3200, 3201, LEAST, GREATEST}) {
            for (int what = 0; what <= 5; what++) {
                due("node(" + s + ", " + what + ")", reader.node(s, what), -1);
            }
        }
        reader.cut(6);
        reader.read();
        due("the last of fewer", reader.node(2, 0), 2);
        due("what was there before", reader.node(3, 0), -1);
        reader.cut(5);
        reader.read();
        due("behind a fault", reader.node(0, 0), -1);
    }

    /** "or another what" */
    private static void nodeOfAnotherWhat() {
        FlowReader reader = Check.after("Wait = f(Send) skip");
        due("what 0", reader.node(0, 0), 6);
        due("what 5", reader.node(0, 5), 2);
        for (int s = 0; s <= 1; s++) {
            for (int what : new int[] {-1, 6, 7, LEAST, GREATEST}) {
                due("node(" + s + ", " + what + ")", reader.node(s, what), -1);
            }
        }
    }

    /** "Item i of statement s; -2147483648 when there is none." */
    private static void itemWhenThereIsNone() {
        FlowReader reader = Check.after("{Wait Send} Wait = f(Send Needed) {Wait ByNeed} skip");
        due("the only one", reader.item(0, 0), 6);
        due("behind it", reader.item(0, 1), LEAST);
        due("the first of four", reader.item(1, 0), 1);
        due("the last of four", reader.item(1, 3), 1);
        due("behind the last", reader.item(1, 4), LEAST);
        due("before the first", reader.item(1, -1), LEAST);
        due("of one without", reader.item(3, 0), LEAST);
        for (int i : new int[] {LEAST, LEAST + 1, -2, 5, 64, 65, 9999, 10000, 10001, GREATEST - 1, GREATEST}) {
            due("item(1, " + i + ")", reader.item(1, i), LEAST);
        }
        for (int s : new int[] {LEAST, -2, -1, 4, 5, 3199, 3200, GREATEST}) {
            due("item(" + s + ", 0)", reader.item(s, 0), LEAST);
        }
        FlowReader fewer = Check.after("{Wait Send} {Wait Send} {Wait Send}");
        fewer.cut(11);
        fewer.read();
        due("the only one of the only statement", fewer.item(0, 0), 6);
        due("what was there before", fewer.item(1, 0) + " " + fewer.item(2, 0), LEAST + " " + LEAST);
        FlowReader number = Check.after("case Wait of ~2147483648 then skip else skip end");
        due("an item that is the least integer", number.item(2, 1), LEAST);
        due("of two items", number.node(2, 5), 2);
    }

    /** "Byte k of atom t; NONE when there is none." */
    private static void atomByteWhenThereIsNone() {
        FlowReader reader = Check.after("show ab|z show abcdefghijklmnopqrstuvwx");
        due("the first byte of atom 0", reader.atomByte(0, 0), 't');
        due("the last byte of atom 0", reader.atomByte(0, 3), 'e');
        due("behind it", reader.atomByte(0, 4), -1);
        due("before it", reader.atomByte(0, -1), -1);
        due("|", reader.atomByte(3, 0), '|');
        due("behind |", reader.atomByte(3, 1), -1);
        due("the last byte of atom 10", reader.atomByte(10, 1), 'b');
        due("behind it", reader.atomByte(10, 2), -1);
        due("the last atom's first", reader.atomByte(12, 0), 'a');
        due("the last atom's last", reader.atomByte(12, 23), 'x');
        due("behind it", reader.atomByte(12, 24), -1);
        for (int t : new int[] {LEAST, -1, 13, 14, 399, 400, 401, GREATEST}) {
            due("atomByte(" + t + ", 0)", reader.atomByte(t, 0), -1);
        }
        for (int k : new int[] {LEAST, -24, -2, 24, 25, 48, GREATEST}) {
            due("atomByte(11, " + k + ")", reader.atomByte(11, k), -1);
        }
    }

    /** "Byte k of the name of variable v; NONE when there is none (of new ones, too)." */
    private static void nameByteWhenThereIsNone() {
        FlowReader reader = Check.after("local Ab Abcdefghijklmnopqrstuvwx in show 1 case 1 of Z|_ then skip end end");
        due("the first byte of variable 0", reader.nameByte(0, 0), 'W');
        due("the last byte of variable 0", reader.nameByte(0, 3), 't');
        due("behind it", reader.nameByte(0, 4), -1);
        due("before it", reader.nameByte(0, -1), -1);
        due("the last of the basis", Check.name(reader, 6), "Send");
        due("the last byte of variable 7", reader.nameByte(7, 1), 'b');
        due("behind it", reader.nameByte(7, 2), -1);
        due("the 24th byte", reader.nameByte(8, 23), 'x');
        due("behind it", reader.nameByte(8, 24), -1);
        due("a new one", reader.nameByte(9, 0), -1);
        due("another new one", reader.nameByte(10, 0), -1);
        due("the variable of a pattern", reader.nameByte(11, 0), 'Z');
        due("that of nomatch", reader.nameByte(12, 0) + " " + reader.count(1), "-1 13");
        for (int v : new int[] {LEAST, -1, 13, 14, 399, 400, 3106, 3107, 3108, GREATEST}) {
            due("nameByte(" + v + ", 0)", reader.nameByte(v, 0), -1);
        }
        for (int k : new int[] {LEAST, -24, -2, 24, 25, 48, GREATEST}) {
            due("nameByte(7, " + k + ")", reader.nameByte(7, k), -1);
        }
    }

    /** "bit 0 NewCell, Exchange, NewPort or Send meant by a VARIABLE" */
    private static void usesOfCells() {
        uses("skip", 0);
        String[] basis = BASIS.split(" ");
        for (int v = 0; v < basis.length; v++) {
            String name = basis[v];
            int want = v >= 3 ? 1 : 0;
            for (String place : new String[] {"show ", "raise ", "Wait = ", "_ = ", "thread show "}) {
                uses(place + name + (place.startsWith("thread") ? " end" : ""), want);
            }
            uses("show f(1 [" + name + "])", want);
            uses(name + " = 1", want);
            uses("{" + name + "}", want);
            uses("case " + name + " of 1 then skip end", want);
            uses("local " + name + " in show " + name + " end", 0);
            uses("local " + name + " in skip end show " + name, want);
            uses("show proc {" + name + "} show " + name + " end", 0);
            uses("case 1 of f(" + name + ") then show " + name + " end", 0);
            uses("case 1 of f(" + name + ") then skip else show " + name + " end", want);
            uses("try skip catch " + name + " then show " + name + " end", 2);
            uses("try show " + name + " catch " + name + " then skip end", 2 + want);
        }
        uses("show newCell show send", 0);
        uses("local NewCells in show NewCells end", 0);
        uses("skip % NewCell", 0);
    }

    /** "bit 1 a try" */
    private static void usesOfTries() {
        uses("try skip catch E then skip end", 2);
        uses("show fun {} do try skip catch E then skip end in 1 end", 2);
        uses("show tries", 0);
        uses("skip % try", 0);
        uses("try {Send} catch E then skip end", 3);
    }

    /** "0 behind a fault", and of the last reading alone. */
    private static void usesBehindAFault() {
        uses("try {Send} catch E then skip", 0);
        uses("show NewCell X", 0);
        FlowReader reader = Check.after("try {Send} catch E then skip end");
        reader.put('X');
        due("uses before the next reading", reader.uses(), 3);
        reader.read();
        due("uses behind it", reader.uses(), 0);
        reader.cut(32);
        reader.read();
        due("uses behind the first text again", reader.uses(), 3);
        reader.cut(0);
        Check.putAll(reader, "skip");
        reader.read();
        due("uses of another text", reader.uses(), 0);
    }

    private static void uses(String text, int want) {
        due("uses of " + text, Check.after(text).uses(), want);
    }

    private static FlowReader withBytes(int n) {
        FlowReader reader = new FlowReader();
        Check.putAll(reader, Check.many(" ", n));
        return reader;
    }

    private static void due(String what, Object got, Object want) {
        Object plain = want instanceof Character c ? (Object) (int) c : want;
        CHECK.due(what, got, plain);
    }
}
