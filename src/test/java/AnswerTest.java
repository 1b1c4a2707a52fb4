/** Promises 7 to 11: node, item, atomByte, nameByte and uses, with wrong questions too. */
public final class AnswerTest {
    private static final Check CHECK = new Check();
    private static final int LEAST = Integer.MIN_VALUE;
    private static final int GREATEST = Integer.MAX_VALUE;

    public static void main(String[] args) {
        nodes();
        items();
        atoms();
        variables();
        marksOfCells();
        marksOfTry();
        everyNumberIsFit();
        CHECK.end();
    }

    private static void nodes() {
        FlowReader reader = Check.after("Wait = ~1 Wait = Send.b skip");
        int[][] want = {{4, 0, -1, -1, 1, 0}, {10, 0, 6, -11, 2, 0}, {1, -1, -1, -1, -1, 0}};
        for (int s = 0; s < want.length; s++) {
            for (int what = 0; what < 6; what++) {
                due("node(" + s + ", " + what + ")", reader.node(s, what), want[s][what]);
            }
            for (int what : new int[] {-1, 6, 7, LEAST, GREATEST}) {
                due("node(" + s + ", " + what + ")", reader.node(s, what), -1);
            }
        }
        for (int s : new int[] {-1, 3, 4, LEAST, GREATEST}) {
            for (int what = -1; what <= 6; what++) {
                due("node(" + s + ", " + what + ")", reader.node(s, what), -1);
            }
        }
        reader.cut(0);
        reader.read();
        due("node(0, 0) behind a fault", reader.node(0, 0), -1);
    }

    private static void items() {
        FlowReader reader = Check.after("case Wait of ~1 then skip else skip end");
        int s = reader.count(0) - 1;
        due("item 0", reader.item(s, 0), 0);
        due("item 1", reader.item(s, 1), -1);
        for (int i : new int[] {-1, 2, 3, LEAST, GREATEST}) {
            due("item " + i, reader.item(s, i), LEAST);
        }
        for (int other : new int[] {-1, 0, s + 1, LEAST, GREATEST}) {
            due("item(" + other + ", 0)", reader.item(other, 0), LEAST);
        }
        reader.cut(0);
        reader.read();
        due("item behind a fault", reader.item(s, 0), LEAST);
    }

    private static void atoms() {
        String[] first = {
            "true", "false", "nil", "|", "nomatch", "failure", "zero", "kind", "arity", "feature"
        };
        FlowReader reader = Check.after("show foo(b_1:true zZ9:foo 1:arity) case b_1 of ab(x:_) then skip end");
        for (int t = 0; t < first.length; t++) {
            due("atom " + t, Check.atom(reader, t), first[t]);
        }
        due("atoms of the text", Check.atom(reader, 10) + " " + Check.atom(reader, 11) + " "
                + Check.atom(reader, 12) + " " + Check.atom(reader, 13) + " " + Check.atom(reader, 14),
                "foo b_1 zZ9 ab x");
        due("count of atoms", reader.count(2), 15);
        due("byte 0 of atom 10", reader.atomByte(10, 0), 102);
        for (int k : new int[] {-1, 3, 24, LEAST, GREATEST}) {
            due("byte " + k + " of atom 10", reader.atomByte(10, k), -1);
        }
        for (int t : new int[] {-1, 15, 400, LEAST, GREATEST}) {
            due("byte 0 of atom " + t, reader.atomByte(t, 0), -1);
        }
        String longest = "abcdefghijklmnopqrstuvwx";
        due("the longest atom", Check.atom(Check.after("show " + longest), 10), longest);
        FlowReader faulty = Check.after("show foo show X");
        due("an atom of the beginning behind a fault", Check.atom(faulty, 9), "feature");
        due("an atom of a faulty text", faulty.atomByte(10, 0), -1);
    }

    private static void variables() {
        String[] basis = {"Wait", "Needed", "ByNeed", "NewCell", "Exchange", "NewPort", "Send"};
        FlowReader reader = Check.after("local Abc_9 X in Abc_9 = proc {X} show 1 end X = Wait end");
        for (int v = 0; v < basis.length; v++) {
            due("variable " + v, Check.name(reader, v), basis[v]);
        }
        due("variables of the text", Check.name(reader, 7) + " " + Check.name(reader, 8) + " "
                + Check.name(reader, 9), "Abc_9 X X");
        due("a new one has no name", reader.nameByte(10, 0), -1);
        due("count of variables", reader.count(1), 11);
        due("byte 0 of variable 7", reader.nameByte(7, 0), 65);
        for (int k : new int[] {-1, 5, 24, LEAST, GREATEST}) {
            due("byte " + k + " of variable 7", reader.nameByte(7, k), -1);
        }
        for (int v : new int[] {-1, 11, 5000, LEAST, GREATEST}) {
            due("byte 0 of variable " + v, reader.nameByte(v, 0), -1);
        }
        due("the result of a fun has none", Check.name(Check.after("Wait = fun {A} A end"), 8), "");
        due("one of the basis, hidden", Check.name(Check.after("local Send in skip end"), 7), "Send");
        FlowReader faulty = Check.after("local X in show Y end");
        due("a variable of the basis behind a fault", Check.name(faulty, 6), "Send");
        due("a variable of a faulty text", faulty.nameByte(7, 0), -1);
    }

    private static void marksOfCells() {
        uses("skip", 0);
        uses("{Wait 1} {Needed 1} {ByNeed 1}", 0);
        uses("{NewCell 1}", 1);
        uses("{Exchange 1}", 1);
        uses("show NewPort", 1);
        uses("_ = Send", 1);
        uses("local NewCell Send in show NewCell|Send end", 0);
        uses("local NewCell in skip end show NewCell", 1);
        uses("_ = proc {Send} {Send} end", 0);
        uses("case 1 of Send|_ then show Send end", 0);
        uses("show newCell", 0);
        uses("show NewCell show X", 0);
    }

    private static void marksOfTry() {
        uses("try skip catch E then skip end", 2);
        uses("try {Send} catch E then skip end", 3);
        uses("try skip catch Send then show Send end", 2);
        uses("_ = proc {} try skip catch E then skip end end", 2);
        uses("try skip catch E then skip", 0);
        FlowReader reader = Check.after("try {Send} catch E then skip end");
        reader.cut(0);
        Check.putAll(reader, "skip");
        reader.read();
        due("uses of the last reading alone", reader.uses(), 0);
    }

    /** No question about any number may throw, in any state. */
    private static void everyNumberIsFit() {
        int[] odd = {LEAST, LEAST + 1, -2, -1, 0, 1, 6, 7, 31, 399, 400, 3199, 3200, 8192, GREATEST};
        FlowReader[] states = {
            new FlowReader(), Check.after("X"), Check.after("show [1 f(a:2)]"), Check.after("_ = Wait")
        };
        for (FlowReader reader : states) {
            for (int one : odd) {
                reader.fault(one);
                reader.count(one);
                for (int other : odd) {
                    reader.node(one, other);
                    reader.item(one, other);
                    reader.atomByte(one, other);
                    reader.nameByte(one, other);
                }
            }
        }
    }

    private static void uses(String text, int want) {
        due("uses of " + text, Check.after(text).uses(), want);
    }

    private static void due(String what, Object got, Object want) {
        CHECK.due(what, got, want);
    }
}
