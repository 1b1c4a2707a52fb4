/** Promises 1, 2, 3 and 6: a new object, put, cut, count. */
public final class TextTest {
    private static final Check CHECK = new Check();

    public static void main(String[] args) {
        newObject();
        putAnswersTheLength();
        putIsRefusedWhenFull();
        cutKeepsTheFirstBytes();
        whatWasCutIsNotRead();
        countsOfOtherWhats();
        textAndReadingAreApart();
        CHECK.end();
    }

    private static void newObject() {
        FlowReader reader = new FlowReader();
        due("NONE", FlowReader.NONE, -1);
        due("FULL", FlowReader.FULL, -2);
        due("counts of a new object", Check.counts(reader), "0 7 10");
        due("bytes of a new object", reader.count(3), 0);
        for (int what = -1; what <= 4; what++) {
            due("fault(" + what + ") of a new object", reader.fault(what), what == 0 ? 0 : -1);
        }
        due("uses of a new object", reader.uses(), 0);
        due("node(0, 0) of a new object", reader.node(0, 0), -1);
        due("item(0, 0) of a new object", reader.item(0, 0), -2147483648);
        due("atom 9", Check.atom(reader, 9), "feature");
        due("name 6", Check.name(reader, 6), "Send");
    }

    private static void putAnswersTheLength() {
        FlowReader reader = new FlowReader();
        due("put of nothing", reader.put(0), 0);
        due("put of one", reader.put('s'), 1);
        due("put up to the first 0", reader.put(0x6100696BL), 3);
        due("put of eight", reader.put(0x2020202020202070L), 11);
        due("put of eight with the highest bit", reader.put(0xFF20202020202025L), 19);
        due("put of nothing, the others behind a 0", reader.put(0x4141414141414100L), 19);
        due("bytes", reader.count(3), 19);
        due("read of what was put: skip and a remark", reader.read(), 0);
        due("the statement", reader.node(0, 0), 1);
    }

    private static void putIsRefusedWhenFull() {
        FlowReader reader = new FlowReader();
        for (int i = 1; i <= 1023; i++) {
            due("put " + i, reader.put(0x2020202020202020L), 8 * i);
        }
        due("put up to 8191", reader.put(0x20202020202020L), 8191);
        due("two too many", reader.put(0x2020), -2);
        due("eight too many", reader.put(0x2020202020202020L), -2);
        due("nothing changed", reader.count(3), 8191);
        due("put up to 8192", reader.put(0x20), 8192);
        due("one too many", reader.put(0x20), -2);
        due("none too many", reader.put(0), 8192);
        due("bytes", reader.count(3), 8192);
        due("read of blanks", reader.read(), -1);
        due("place of the end", reader.fault(0) + " at " + reader.fault(1), "11 at 8192");
    }

    private static void cutKeepsTheFirstBytes() {
        FlowReader reader = new FlowReader();
        due("cut(0) of nothing", reader.cut(0), 0);
        due("cut(1) of nothing", reader.cut(1), -1);
        Check.putAll(reader, "skip foul");
        due("cut too long", reader.cut(10), -1);
        due("cut below 0", reader.cut(-1), -1);
        due("cut of the least", reader.cut(Integer.MIN_VALUE), -1);
        due("cut of the greatest", reader.cut(Integer.MAX_VALUE), -1);
        due("bytes behind refusals", reader.count(3), 9);
        due("cut to all", reader.cut(9), 9);
        due("cut to 5", reader.cut(5), 5);
        due("bytes behind cut", reader.count(3), 5);
        due("read of what is left", reader.read(), 0);
        due("put behind what is left", reader.put('['), 6);
        reader.read();
        due("the new byte is read", reader.fault(0) + " at " + reader.fault(1), "11 at 6");
    }

    private static void whatWasCutIsNotRead() {
        for (String text : new String[] {"show _a", "show 1a", "show 12", "show a=", "skip%\nX"}) {
            FlowReader reader = new FlowReader();
            Check.putAll(reader, text);
            reader.cut(text.length() - 1);
            reader.read();
            due("fault of " + text + " without its last byte", reader.fault(0), 0);
        }
    }

    private static void countsOfOtherWhats() {
        FlowReader reader = Check.after("local X in X = foo end");
        due("statements", reader.count(0), 2);
        due("variables", reader.count(1), 8);
        due("atoms", reader.count(2), 11);
        due("bytes", reader.count(3), 22);
        due("count(4)", reader.count(4), -1);
        due("count(-1)", reader.count(-1), -1);
        due("count of the least", reader.count(Integer.MIN_VALUE), -1);
        due("count of the greatest", reader.count(Integer.MAX_VALUE), -1);
    }

    private static void textAndReadingAreApart() {
        FlowReader reader = Check.after("local X in X = foo end");
        reader.cut(3);
        due("statements stay until the next reading", Check.counts(reader), "2 8 11");
        due("names too", Check.atom(reader, 10) + Check.name(reader, 7), "fooX");
        reader.read();
        due("a reading with a fault leaves those of the beginning", Check.counts(reader), "0 7 10");
        due("no name of a variable stays", reader.nameByte(7, 0), -1);
        due("no name of an atom stays", reader.atomByte(10, 0), -1);
        FlowReader faulty = Check.after("skip\n  X");
        faulty.cut(0);
        due("a fault stays, too", faulty.fault(1) + " " + faulty.fault(2) + " " + faulty.fault(3), "7 2 3");
    }

    private static void due(String what, Object got, Object want) {
        CHECK.due(what, got, want);
    }
}
