/** Promise 4: what is too many, too deep or too wide, each at its edge and one behind it. */
public final class LimitTest {
    private static final Check CHECK = new Check();

    public static void main(String[] args) {
        manyTokens();
        manyNames();
        deep();
        deepOpeners();
        wideRowsOfVariables();
        wideExps();
        wideSlots();
        wideFeatures();
        listsHaveNoWidth();
        largestKernels();
        CHECK.end();
    }

    private static void manyTokens() {
        fine(many("skip ", 1500));
        at(many("skip ", 1500) + "^skip", 5);
        at(many("skip ", 1500) + "^end", 5);
        at(many("skip ", 1500) + "^3a", 4);
        at(many("skip ", 1500) + "^!", 1);
        fine(many("skip ", 1500) + " % no token ");
        at(many("skip ", 1499) + "show ^", 11);
        at(many("skip ", 1498) + "^X end", 13);
    }

    private static void manyNames() {
        // 10 atoms and 7 variables are there before the text.
        fine(names(383));
        fine(names(383) + " show a1 show Send show true show a383");
        at(names(383) + " show ^a384", 5);
        at(names(383) + " local ^X in skip end", 5);
        at(names(383) + " show ^abcdefghijklmnopqrstuvwxyz", 2);
        at(names(382) + " local X ^Y in skip end", 5);
        at(names(382) + " show ^X show a384", 13);
        FlowReader reader = Check.after(names(383));
        CHECK.due("atoms", reader.count(2), 393);
        CHECK.due("the last atom", Check.atom(reader, 392), "a383");
        reader.read();
        CHECK.due("a second reading has room again", reader.fault(0) + " " + reader.count(2), "0 393");
    }

    private static void deep() {
        String[][] both = {
            {"(", ")"}, {"[", "]"}, {"{", "}"}, {"f(", ")"}, {"local X in ", " end"},
            {"if ", " then 1 else 2 end"}, {"if 1 then ", " else 2 end"},
            {"case ", " of 1 then 2 end"}, {"case 1 of 1 then 2 else ", " end"}, {"thread ", " end"},
        };
        for (String[] one : both) {
            String opened = "show " + many(one[0], 24);
            fine(opened + "1" + many(one[1], 24));
            fine(many(opened + "1" + many(one[1], 24) + " ", 2));
            at(opened + "^(1)" + many(one[1], 24), 15);
        }
    }

    private static void deepOpeners() {
        String most = "show " + many("(", 24);
        for (String opener : new String[] {"(", "[", "{", "local", "if", "case", "proc", "fun", "thread"}) {
            at(most + "^" + opener, 15);
        }
        at(most + "f^(", 15);
        at(most + "^do", 11);
        at("show " + many("(", 23) + "proc ^{", 15);
        at("show " + many("(", 23) + "fun ^{", 15);
        fine("show " + many("(", 22) + "proc {X} skip end" + many(")", 22));
        at("show " + many("(", 22) + "proc {X} try skip catch E then ^try", 15);
        at("show " + many("(", 23) + "case 1 of f^(", 15);
        fine("show " + many("(", 22) + "case 1 of f(X) then (1) end" + many(")", 22));
        at("show " + many("(", 23) + "thread ^do", 15);
        fine("show " + many("(", 22) + "thread do skip in (1) end" + many(")", 22));
        at(many("try ", 24) + "^try", 15);
        at(many("thread ", 23) + "if 1 then skip else ^local", 15);
    }

    private static void wideRowsOfVariables() {
        String most = numbered("V", 32);
        fine("local " + most + " in skip end");
        at("local " + most + " ^W in skip end", 16);
        at("local " + most + " ^V3 in skip end", 14);
        at("local " + most + " ^1 in skip end", 11);
        fine("show proc {" + most + "} skip end");
        at("show proc {" + most + " ^W} skip end", 16);
        at("show fun {" + most + " ^V32} 1 end", 14);
        fine("show fun {" + most + "} V1 end");
    }

    private static void wideExps() {
        String most = many("1 ", 32);
        for (String opened : new String[] {"show f(", "{Wait ", "show {f("}) {
            at(opened + most + "^1", 16);
            at(opened + most + "^a:1", 16);
            at(opened + most + "^(1)", 16);
            at(opened + most + "^Wait", 16);
            at(opened + most + "^X", 13);
            at(opened + most + "^=", 11);
            at(opened + most + "^", 11);
            at(opened + most + "^]", 11);
            at(opened + most + "^3a", 4);
        }
        fine("show f(" + most + ") {Wait " + most + "}");
        at("show " + many("(", 23) + "f(" + most + "^(", 15);
        at("show " + many("(", 23) + "{1 " + most + "^fun", 15);
        at("show " + many("(", 23) + "f(" + most + "^g(", 16);
        at("show " + many("(", 22) + "f(" + most + "^(", 16);
    }

    private static void wideSlots() {
        String most = numbered("V", 32);
        fine("case 1 of f(" + most + ") then skip end");
        fine("case 1 of f(" + many("_ ", 32) + ") then skip end");
        at("case 1 of f(" + most + " ^W) then skip end", 16);
        at("case 1 of f(" + most + " ^_) then skip end", 16);
        at("case 1 of f(" + most + " ^V1) then skip end", 14);
        at("case 1 of f(" + most + " ^a) then skip end", 11);
        String featured = numbered("", 32).replace(" ", ":_ ") + ":_";
        fine("case 1 of f(" + featured + ") then skip end");
        at("case 1 of f(" + featured + " ^a:_) then skip end", 16);
        at("case 1 of f(" + featured + " ^3:_) then skip end", 12);
        at("case 1 of f(" + featured + " ^33:_) then skip end", 16);
        at("case 1 of f(" + featured + " ^_) then skip end", 11);
    }

    private static void wideFeatures() {
        String most = numbered("a", 32).replace(" ", ":1 ") + ":1";
        fine("show f(" + most + ")");
        at("show f(" + most + " ^b:1)", 16);
        at("show f(" + most + " ^a7:1)", 12);
        at("show f(" + most + " ^33:1)", 16);
        at("show f(" + most + " ^X:1)", 11);
    }

    private static void listsHaveNoWidth() {
        fine("show [" + many("1 ", 1000) + "]");
        fine("show " + many("1|", 700) + "nil");
        fine("show " + many("1+", 700) + "1");
        fine("show Wait" + many(".a", 700));
        fine("case 1 " + many("of 1 then skip ", 370) + "end");
    }

    private static void largestKernels() {
        FlowReader list = Check.after("show [" + many("1 ", 1497) + "]");
        CHECK.due("a list of 1497", Check.counts(list), 2 * 1497 + 3 + " " + (7 + 2 * 1497 + 1) + " 10");
        int around = list.count(0) - 1;
        CHECK.due("its LOCAL", list.node(around, 0) + " " + list.node(around, 5), "2 " + (2 * 1497 + 1));
        CHECK.due("its last item", list.item(around, 2 * 1497), 7 + 2 * 1497);
        CHECK.due("its SHOW", Check.statement(list, around - 1), "SHOW x7");
        CHECK.due("its nil", Check.statement(list, around - 2),
                "ATOM x" + (7 + 2 * 1497) + " a2 > " + (around - 1));
        FlowReader shows = Check.after(many("show 1 ", 750));
        CHECK.due("750 items", Check.counts(shows), "2250 757 10");
        CHECK.due("the last one", Check.statement(shows, 2249), "LOCAL a2247 [756]");
        FlowReader sums = Check.after("show " + many("1-", 749) + "1");
        CHECK.due("a sum of 750", Check.counts(sums), "1501 1506 10");
        CHECK.due("its first", Check.statement(sums, 0), "NUMBER x756 a1 > 1");
        CHECK.due("its last", Check.statement(sums, 1498), "OPERATE x7 a1 [8 1505] > 1499");
    }

    private static String many(String part, int times) {
        return part.repeat(times);
    }

    private static String numbered(String name, int n) {
        StringBuilder all = new StringBuilder();
        for (int i = 1; i <= n; i++) {
            all.append(i == 1 ? "" : " ").append(name).append(i);
        }
        return all.toString();
    }

    /** A text with n atoms of its own. */
    private static String names(int n) {
        return "show [" + numbered("a", n) + "]";
    }

    private static void at(String marked, int kind) {
        CHECK.dueFaultAtMark(marked, kind);
    }

    private static void fine(String text) {
        CHECK.dueNoFault(text);
    }
}
