/** The edges of the kernel, a method a sentence of the document's part THE KERNEL. */
public final class KernelEdgeTest {
    private static final Check CHECK = new Check();

    public static void main(String[] args) {
        variablesFromSevenOn();
        atomsFromTenOn();
        atomsThatAreThereBefore();
        featuresOfIntegersAndAtoms();
        aRowOfNoStatements();
        theStatementBehind();
        whereAStatementHasNone();
        recordsByFeatures();
        patternsByFeatures();
        anyIntoAVariable();
        recordsWithoutFields();
        patternsWithoutSlots();
        partsThatAreVariables();
        listsWithoutElements();
        anExpAsAVariable();
        applicationsWithoutArguments();
        proceduresWithoutParameters();
        valuesWithoutABody();
        unificationOfVariablesAndOthers();
        ifWithoutElse();
        caseWithoutElse();
        casesInTheOtherStatement();
        itemsWithoutNewVariables();
        newVariablesOfItemsInBodies();
        ownNodesComeBehindTheirBodies();
        greatestKernels();
        CHECK.end();
    }

    /** "VARIABLES have numbers: 0 .. 6 the basis, others from 7 on in the order .." */
    private static void variablesFromSevenOn() {
        FlowReader reader = Check.after("local A B in try B = proc {C D} case 1 of f(b:E a:_ 1:G) then skip end end "
                + "catch H then A = fun {I} local J in J end end end end");
        CHECK.due("names", names(reader), "A B C D - E G - H I - J");
        CHECK.due("count", reader.count(1), 7 + 12);
        CHECK.due("none", Check.after("skip").count(1), 7);
        CHECK.due("one", Check.after("show 1").count(1), 8);
        due("local A in case A of B|_ then skip of _|C then skip else skip end end", 5,
                "SKIP", "SKIP", "SKIP", "CASE x7 a1 b2 [2 3 1 -1 2 9]", "CASE x7 a0 b3 [2 3 1 8 2 -1]",
                "LOCAL a4 [7]");
    }

    /** "others from 10 on in the order in which they stand in the text first" */
    private static void atomsFromTenOn() {
        FlowReader reader = Check.after("show z(y:x w:z) show Wait.v.u case t of s(r:_) then skip of q then show t end");
        StringBuilder atoms = new StringBuilder();
        for (int t = 10; t < reader.count(2); t++) {
            atoms.append(Check.atom(reader, t));
        }
        CHECK.due("atoms of the text", atoms.toString(), "zyxwvutsrq");
        CHECK.due("none", Check.after("skip").count(2), 10);
        CHECK.due("one", Check.after("show a|a|a").count(2), 11);
        due("Wait = b Wait = a Wait = b", 0, "ATOM x0 a10 > 1", "ATOM x0 a11 > 2", "ATOM x0 a10");
    }

    /** "ATOMS have numbers: 0 true, 1 false, 2 nil, 3 |, 4 nomatch, .." */
    private static void atomsThatAreThereBefore() {
        String[] there = {"true", "false", "nil", "", "nomatch", "failure", "zero", "kind", "arity", "feature"};
        for (int t = 0; t < there.length; t++) {
            if (t != 3) {
                due("Wait = " + there[t], 0, "ATOM x0 a" + t);
            }
        }
        due("Wait = Send|Send", 0, "RECORD x0 a3 [1 6 2 6]");
        due("Wait = []", 0, "ATOM x0 a2");
        CHECK.due("no atom more", Check.after("Wait = [true feature]").count(2), 10);
        CHECK.due("one more", Check.after("Wait = [true features]").count(2), 11);
    }

    /** "A FEATURE is its integer, or -1 less its atom." */
    private static void featuresOfIntegersAndAtoms() {
        due("Wait = Send.1", 0, "SELECT x0 a6 b1");
        due("Wait = Send.32", 0, "SELECT x0 a6 b32");
        due("Wait = Send.false", 0, "SELECT x0 a6 b-2");
        due("Wait = Send.feature", 0, "SELECT x0 a6 b-10");
        due("Wait = Send.a", 0, "SELECT x0 a6 b-11");
        CHECK.due("the feature true", Check.after("Wait = Send.true").node(0, 3), -1);
        due("Wait = f(true:Send)", 0, "RECORD x0 a10 [-1 6]");
        due("Wait = f(32:Send f:Wait)", 0, "RECORD x0 a10 [32 6 -11 0]");
        due("case Wait of f(true:X 32:_) then skip else skip end", 2,
                "SKIP", "SKIP", "CASE x0 a0 b1 [2 10 32 -1 -1 7]");
    }

    /** "a row of statements is told by its first one (NONE for none)" */
    private static void aRowOfNoStatements() {
        due("_ = Wait", -1);
        due("_ = Wait Wait = _", -1);
        due("local X in _ = X end", 0, "LOCAL [7]");
        due("Wait = proc {} _ = Wait end", 0, "PROCEDURE x0");
        due("Wait = fun {} _ end", 0, "PROCEDURE x0 [7]");
        due("thread _ = Wait end", 0, "THREAD");
        due("Wait = thread _ end", 0, "THREAD");
        due("try _ = Wait catch E then _ = E end", 0, "TRY x7");
        due("if Wait then _ = Wait else _ = Wait end", 0, "IF x0");
        due("if Wait then skip else _ = Wait end", 1, "SKIP", "IF x0 a0");
        due("if Wait then _ = Wait else skip end", 1, "SKIP", "IF x0 b0");
        due("case Wait of 1 then _ = Wait else _ = Wait end", 0, "CASE x0 [0 1]");
        due("Wait = local X in _ end", 0, "LOCAL [7]");
        due("_ = _", 0, "LOCAL [7]");
        due("Wait = if Send then _ else _ end", 0, "IF x6");
    }

    /** "each has one behind it (NONE for none)" */
    private static void theStatementBehind() {
        due("skip", 0, "SKIP");
        due("skip skip skip", 0, "SKIP > 1", "SKIP > 2", "SKIP");
        due("skip _ = Wait skip", 0, "SKIP > 1", "SKIP");
        due("_ = Wait skip", 0, "SKIP");
        due("skip _ = Wait", 0, "SKIP");
        due("thread skip end skip", 1, "SKIP", "THREAD a0 > 2", "SKIP");
        due("skip show 1", 0, "SKIP > 3", "NUMBER x7 a1 > 2", "SHOW x7", "LOCAL a1 [7]");
        due("show 1 skip", 2, "NUMBER x7 a1 > 1", "SHOW x7", "LOCAL a0 [7] > 3", "SKIP");
    }

    /** What each kind of statement has, and NONE where it has none. */
    private static void whereAStatementHasNone() {
        node("skip", 0, "1 -1 -1 -1 -1 0");
        node("local X in skip end", 1, "2 -1 0 -1 -1 1");
        node("Wait = Send", 0, "3 0 6 -1 -1 0");
        node("Wait = 5", 0, "4 0 5 -1 -1 0");
        node("Wait = a", 0, "5 0 10 -1 -1 0");
        node("Wait = f(Send)", 0, "6 0 10 -1 -1 2");
        node("Wait = proc {X} skip end", 1, "7 0 0 -1 -1 1");
        node("Wait = Send + Send", 0, "8 0 0 -1 -1 2");
        node("Wait = Send == Send", 0, "9 0 -1 -1 -1 2");
        node("Wait = Send.a", 0, "10 0 6 -11 -1 0");
        node("if Send then skip end", 1, "11 6 0 -1 -1 0");
        node("case Send of 1 then skip else skip end", 2, "12 6 0 1 -1 2");
        node("{Send Wait}", 0, "13 6 -1 -1 -1 1");
        node("thread skip end", 1, "14 -1 0 -1 -1 0");
        node("try skip catch E then skip end", 2, "15 7 0 1 -1 0");
        node("raise Send", 0, "16 6 -1 -1 -1 0");
        node("show Send", 0, "17 6 -1 -1 -1 0");
        String[] operations = {"+", "-", "*", "div", "mod", "<", "=<"};
        for (int a = 0; a < operations.length; a++) {
            node("Wait = Send " + operations[a] + " Send", 0, "8 0 " + a + " -1 -1 2");
        }
    }

    /** "6 RECORD .. by features (integers, then atoms by their bytes)" */
    private static void recordsByFeatures() {
        due("Wait = f(2:Wait 10:Send 1:Needed)", 0, "RECORD x0 a10 [1 1 2 0 10 6]");
        due("Wait = f(a:Wait 32:Send)", 0, "RECORD x0 a10 [32 6 -12 0]");
        due("Wait = f(b:Wait a:Send)", 0, "RECORD x0 a10 [-13 6 -12 0]");
        due("Wait = f(ab:Wait a:Send)", 0, "RECORD x0 a10 [-13 6 -12 0]");
        due("Wait = f(a:Wait ab:Send)", 0, "RECORD x0 a10 [-12 0 -13 6]");
        due("Wait = f(aa:Wait a_:Send aA:Needed a9:ByNeed)", 0, "RECORD x0 a10 [-15 2 -14 1 -13 6 -12 0]");
        due("Wait = f(zero:Wait true:Send)", 0, "RECORD x0 a10 [-1 6 -7 0]");
        due("Wait = f(abcdefghijklmnopqrstuvwy:Wait abcdefghijklmnopqrstuvwx:Send)", 0,
                "RECORD x0 a10 [-13 6 -12 0]");
        due("Wait = f(Wait Send Needed)", 0, "RECORD x0 a10 [1 0 2 6 3 1]");
        FlowReader reader = Check.after("Wait = f(" + descending(":Wait") + ")");
        for (int i = 1; i <= 32; i++) {
            CHECK.due("feature " + i + " of 32", reader.item(0, 2 * i - 2), i);
        }
    }

    /** "12 CASE .. then feature, variable (NONE for _) and so on, by features" */
    private static void patternsByFeatures() {
        String rest = " then skip else skip end";
        String[][] edges = {
            {"f(2:A 10:B 1:_)", "[2 10 1 -1 2 7 10 8]"}, {"f(a:A 32:_)", "[2 10 32 -1 -12 7]"},
            {"f(b:A a:B)", "[2 10 -13 8 -12 7]"}, {"f(ab:A a:_)", "[2 10 -13 -1 -12 7]"},
            {"f(A _ B)", "[2 10 1 7 2 -1 3 8]"}, {"f(_)", "[2 10 1 -1]"}, {"_|A", "[2 3 1 -1 2 7]"},
            {"0", "[0 0]"}, {"~2147483648", "[0 -2147483648]"}, {"2147483647", "[0 2147483647]"}, {"a", "[1 10]"},
            {"true", "[1 0]"}, {"nil", "[1 2]"},
        };
        for (String[] one : edges) {
            due("case Wait of " + one[0] + rest, 2, "SKIP", "SKIP", "CASE x0 a0 b1 " + one[1]);
        }
        FlowReader reader = Check.after("case 1 of f(" + descending(":_") + ") then skip end");
        int s = reader.count(0) - 2;
        CHECK.due("items of the widest pattern", reader.node(s, 0) + " " + reader.node(s, 5), "12 66");
        for (int i = 1; i <= 32; i++) {
            CHECK.due("feature " + i + " of 32", reader.item(s, 2 * i), i);
            CHECK.due("slot " + i + " of 32", reader.item(s, 2 * i + 1), -1);
        }
    }

    /** "_: nothing" */
    private static void anyIntoAVariable() {
        due("Wait = _", -1);
        due("_ = 1", 1, "NUMBER x7 a1", "LOCAL a0 [7]");
        due("1 = _", 1, "NUMBER x7 a1", "LOCAL a0 [7]");
        due("show _", 1, "SHOW x7", "LOCAL a0 [7]");
        due("{_ _}", 1, "APPLY x7 [8]", "LOCAL a0 [7 8]");
        due("Wait = f(_ _)", 1, "RECORD x0 a10 [1 7 2 8]", "LOCAL a0 [7 8]");
    }

    /** "INTEGER, ATOM, f( ): NUMBER, ATOM" */
    private static void recordsWithoutFields() {
        due("Wait = f()", 0, "ATOM x0 a10");
        due("Wait = f( % \n )", 0, "ATOM x0 a10");
        due("Wait = f", 0, "ATOM x0 a10");
        due("Wait = f(_)", 1, "RECORD x0 a10 [1 7]", "LOCAL a0 [7]");
        due("Wait = nil()", 0, "ATOM x0 a2");
    }

    /** "1 atom items 1, 2 record of label items 1": a bracket in a pattern makes a record. */
    private static void patternsWithoutSlots() {
        due("case Wait of f then skip else skip end", 2, "SKIP", "SKIP", "CASE x0 a0 b1 [1 10]");
        due("case Wait of f() then skip else skip end", 2, "SKIP", "SKIP", "CASE x0 a0 b1 [2 10]");
    }

    /** "a part being E itself where that is a VARIABLE, otherwise new; then all other parts .." */
    private static void partsThatAreVariables() {
        due("Wait = f(Send)", 0, "RECORD x0 a10 [1 6]");
        due("Wait = f(1)", 2, "RECORD x0 a10 [1 7] > 1", "NUMBER x7 a1", "LOCAL a0 [7]");
        due("Wait = f(1 Send 2)", 3,
                "RECORD x0 a10 [1 7 2 6 3 8] > 1", "NUMBER x7 a1 > 2", "NUMBER x8 a2", "LOCAL a0 [7 8]");
        due("Wait = f(b:1 a:2)", 3,
                "RECORD x0 a10 [-13 8 -12 7] > 1", "NUMBER x7 a1 > 2", "NUMBER x8 a2", "LOCAL a0 [7 8]");
        due("Wait = f(g(1) 2)", 4,
                "RECORD x0 a10 [1 7 2 8] > 1", "RECORD x7 a11 [1 9] > 2", "NUMBER x9 a1 > 3", "NUMBER x8 a2",
                "LOCAL a0 [7 8 9]");
    }

    /** "[E F ..]: E | F | .. | nil" */
    private static void listsWithoutElements() {
        due("Wait = []", 0, "ATOM x0 a2");
        due("Wait = [Send]", 2, "RECORD x0 a3 [1 6 2 7] > 1", "ATOM x7 a2", "LOCAL a0 [7]");
        due("Wait = [Send Send]", 3,
                "RECORD x0 a3 [1 6 2 7] > 1", "RECORD x7 a3 [1 6 2 8] > 2", "ATOM x8 a2", "LOCAL a0 [7 8]");
        due("Wait = [[]]", 3,
                "RECORD x0 a3 [1 7 2 8] > 1", "ATOM x7 a2 > 2", "ATOM x8 a2", "LOCAL a0 [7 8]");
        due("Wait = Send|[]", 2, "RECORD x0 a3 [1 6 2 7] > 1", "ATOM x7 a2", "LOCAL a0 [7]");
    }

    /** "it is itself when it is one, otherwise a new one, into which it goes before" */
    private static void anExpAsAVariable() {
        due("show Wait", 0, "SHOW x0");
        due("show (Wait)", 0, "SHOW x0");
        due("show ((Wait))", 0, "SHOW x0");
        due("show 1", 2, "NUMBER x7 a1 > 1", "SHOW x7", "LOCAL a0 [7]");
        due("Wait = Send + 1", 2, "NUMBER x7 a1 > 1", "OPERATE x0 a0 [6 7]", "LOCAL a0 [7]");
        due("Wait = 1 == Send", 2, "NUMBER x7 a1 > 1", "EQUAL x0 [7 6]", "LOCAL a0 [7]");
        due("Wait = 1.a", 2, "NUMBER x7 a1 > 1", "SELECT x0 a7 b-11", "LOCAL a0 [7]");
        due("raise [1]", 4,
                "RECORD x7 a3 [1 8 2 9] > 1", "NUMBER x8 a1 > 2", "ATOM x9 a2 > 3", "RAISE x7", "LOCAL a0 [7 8 9]");
    }

    /** "APPLY with x behind the others", "as above, without x" */
    private static void applicationsWithoutArguments() {
        due("{Send}", 0, "APPLY x6");
        due("Wait = {Send}", 0, "APPLY x6 [0]");
        due("{Send Needed}", 0, "APPLY x6 [1]");
        due("Wait = {Send Needed}", 0, "APPLY x6 [1 0]");
        due("{1 2}", 3, "NUMBER x7 a1 > 1", "NUMBER x8 a2 > 2", "APPLY x7 [8]", "LOCAL a0 [7 8]");
        due("show {Send}", 2, "APPLY x6 [7] > 1", "SHOW x7", "LOCAL a0 [7]");
    }

    /** "PROCEDURE with a new variable behind the parameters" */
    private static void proceduresWithoutParameters() {
        due("Wait = proc {} skip end", 1, "SKIP", "PROCEDURE x0 a0");
        due("Wait = proc {A} skip end", 1, "SKIP", "PROCEDURE x0 a0 [7]");
        due("Wait = fun {} Send end", 1, "SAME x7 a6", "PROCEDURE x0 a0 [7]");
        due("Wait = fun {A} Send end", 1, "SAME x8 a6", "PROCEDURE x0 a0 [7 8]");
        due("show proc {} skip end", 3, "SKIP", "PROCEDURE x7 a0 > 2", "SHOW x7", "LOCAL a1 [7]");
        due("show fun {} 1 end", 3, "NUMBER x8 a1", "PROCEDURE x7 a0 [8] > 2", "SHOW x7", "LOCAL a1 [7]");
    }

    /** "A value into x: the items of its body, and behind them its exp into x, as an item." */
    private static void valuesWithoutABody() {
        due("Wait = thread 1 end", 1, "NUMBER x0 a1", "THREAD a0");
        due("Wait = thread do skip in 1 end", 2, "SKIP > 1", "NUMBER x0 a1", "THREAD a0");
        due("Wait = thread do skip in _ end", 1, "SKIP", "THREAD a0");
        due("Wait = thread Send end", 1, "SAME x0 a6", "THREAD a0");
        due("Wait = thread 1 + Send end", 3,
                "NUMBER x7 a1 > 1", "OPERATE x0 a0 [7 6]", "LOCAL a0 [7]", "THREAD a2");
        due("Wait = local X in X end", 1, "SAME x0 a7", "LOCAL a0 [7]");
        due("Wait = local X in [X] end", 3,
                "RECORD x0 a3 [1 7 2 8] > 1", "ATOM x8 a2", "LOCAL a0 [8]", "LOCAL a2 [7]");
        due("Wait = case Send of 1 then Send else 2 end", 2,
                "SAME x0 a6", "NUMBER x0 a2", "CASE x6 a0 b1 [0 1]");
    }

    /** "E = F: F into E when E is a VARIABLE, else E into F when F is one, else .." */
    private static void unificationOfVariablesAndOthers() {
        due("Wait = Send", 0, "SAME x0 a6");
        due("Wait = Wait", 0, "SAME x0 a0");
        due("Wait = 1", 0, "NUMBER x0 a1");
        due("1 = Wait", 0, "NUMBER x0 a1");
        due("(Wait) = Send", 0, "SAME x0 a6");
        due("1 = a", 2, "NUMBER x7 a1 > 1", "ATOM x7 a10", "LOCAL a0 [7]");
        due("Wait.a = Send.b", 2, "SELECT x7 a0 b-11 > 1", "SELECT x7 a6 b-12", "LOCAL a0 [7]");
    }

    /** "IF (c NONE without else)" */
    private static void ifWithoutElse() {
        due("if Wait then skip end", 1, "SKIP", "IF x0 a0");
        due("if Wait then skip else skip end", 2, "SKIP", "SKIP", "IF x0 a0 b1");
    }

    /** "without it: LOCAL v, ATOM v nomatch, RAISE v" */
    private static void caseWithoutElse() {
        due("case Wait of 1 then skip end", 4,
                "SKIP", "ATOM x7 a4 > 2", "RAISE x7", "LOCAL a1 [7]", "CASE x0 a0 b3 [0 1]");
        due("case Wait of 1 then skip else skip end", 2, "SKIP", "SKIP", "CASE x0 a0 b1 [0 1]");
        due("Wait = case Send of 1 then 2 end", 4,
                "NUMBER x0 a2", "ATOM x7 a4 > 2", "RAISE x7", "LOCAL a1 [7]", "CASE x6 a0 b3 [0 1]");
        CHECK.due("v has no name", Check.after("case Wait of 1 then skip end").nameByte(7, 0), -1);
    }

    /** "CASE, the next p in the other statement (it alone), behind the last one else" */
    private static void casesInTheOtherStatement() {
        due("case Wait of 1 then skip of 2 then skip end skip", 6,
                "SKIP", "SKIP", "ATOM x7 a4 > 3", "RAISE x7", "LOCAL a2 [7]", "CASE x0 a1 b4 [0 2]",
                "CASE x0 a0 b5 [0 1] > 7", "SKIP");
        due("case Wait of 1 then skip of 2 then skip of 3 then skip else skip end", 6,
                "SKIP", "SKIP", "SKIP", "SKIP", "CASE x0 a2 b3 [0 3]", "CASE x0 a1 b4 [0 2]", "CASE x0 a0 b5 [0 1]");
        due("case 7 of 1 then skip of 2 then skip else skip end", 6,
                "NUMBER x7 a7 > 5", "SKIP", "SKIP", "SKIP", "CASE x7 a2 b3 [0 2]", "CASE x7 a1 b4 [0 1]",
                "LOCAL a0 [7]");
    }

    /** "those of an item, when it has new variables .. stand in a LOCAL of these" */
    private static void itemsWithoutNewVariables() {
        due("Wait = f(Send)", 0, "RECORD x0 a10 [1 6]");
        due("Wait = f(_)", 1, "RECORD x0 a10 [1 7]", "LOCAL a0 [7]");
        due("if Wait then skip end", 1, "SKIP", "IF x0 a0");
        due("if _ then skip end", 2, "SKIP", "IF x7 a0", "LOCAL a1 [7]");
        due("local X in X = Wait end", 1, "SAME x7 a0", "LOCAL a0 [7]");
        due("local X in X = [Wait] end", 3,
                "RECORD x7 a3 [1 0 2 8] > 1", "ATOM x8 a2", "LOCAL a0 [8]", "LOCAL a2 [7]");
        due("show 1 show 2", 2,
                "NUMBER x7 a1 > 1", "SHOW x7", "LOCAL a0 [7] > 5", "NUMBER x8 a2 > 4", "SHOW x8", "LOCAL a3 [8]");
    }

    /** "(not those of items in bodies in it)" */
    private static void newVariablesOfItemsInBodies() {
        due("if Wait then show 1 end", 3, "NUMBER x7 a1 > 1", "SHOW x7", "LOCAL a0 [7]", "IF x0 a2");
        due("if 1 then show 2 end", 5,
                "NUMBER x7 a1 > 4", "NUMBER x8 a2 > 2", "SHOW x8", "LOCAL a1 [8]", "IF x7 a3", "LOCAL a0 [7]");
        due("{Wait proc {} show 1 end}", 5,
                "NUMBER x8 a1 > 1", "SHOW x8", "LOCAL a0 [8]", "PROCEDURE x7 a2 > 4", "APPLY x0 [7]", "LOCAL a3 [7]");
        due("{Wait if Send then f(1) else 2 end}", 6,
                "RECORD x7 a10 [1 8] > 1", "NUMBER x8 a1", "LOCAL a0 [8]", "NUMBER x7 a2", "IF x6 a2 b3 > 5",
                "APPLY x0 [7]", "LOCAL a4 [7]");
    }

    /** "A LOCAL's, PROCEDURE's, THREAD's, TRY's own node comes to be behind its body .." */
    private static void ownNodesComeBehindTheirBodies() {
        due("local X in thread try skip catch E then if X then skip else skip end end end end", 6,
                "SKIP", "SKIP", "SKIP", "IF x7 a1 b2", "TRY x8 a0 b3", "THREAD a4", "LOCAL a5 [7]");
        due("Wait = proc {} case Wait of 1 then skip else skip end end", 3,
                "SKIP", "SKIP", "CASE x0 a0 b1 [0 1]", "PROCEDURE x0 a2");
    }

    /** What the 1,500 tokens of a text can make at most is kept whole. */
    private static void greatestKernels() {
        FlowReader list = Check.after("show [" + Check.many("1 ", 1497) + "]");
        CHECK.due("a list of 1497", Check.counts(list), 2 * 1497 + 3 + " " + (7 + 2 * 1497 + 1) + " 10");
        int around = list.count(0) - 1;
        CHECK.due("its LOCAL", list.node(around, 0) + " " + list.node(around, 5), "2 " + (2 * 1497 + 1));
        CHECK.due("its last item", list.item(around, 2 * 1497), 7 + 2 * 1497);
        CHECK.due("its SHOW", Check.statement(list, around - 1), "SHOW x7");
        CHECK.due("its nil", Check.statement(list, around - 2),
                "ATOM x" + (7 + 2 * 1497) + " a2 > " + (around - 1));
        FlowReader shows = Check.after(Check.many("show 1 ", 750));
        CHECK.due("750 items", Check.counts(shows), "2250 757 10");
        CHECK.due("the last one", Check.statement(shows, 2249), "LOCAL a2247 [756]");
        FlowReader sums = Check.after("show " + Check.many("1-", 749) + "1");
        CHECK.due("a sum of 750", Check.counts(sums), "1501 1506 10");
        CHECK.due("its first", Check.statement(sums, 0), "NUMBER x756 a1 > 1");
        CHECK.due("its last", Check.statement(sums, 1498), "OPERATE x7 a1 [8 1505] > 1499");
        FlowReader cases = Check.after("case Wait " + Check.many("of 1 then skip ", 374) + "end");
        CHECK.due("374 patterns", Check.counts(cases), 2 * 374 + 3 + " 8 10");
        CHECK.due("the first pattern", Check.statement(cases, 750), "CASE x0 a0 b749 [0 1]");
        FlowReader lists = Check.after("Wait = [" + Check.many("[1] ", 498) + "]");
        CHECK.due("498 lists in one", Check.counts(lists), 4 * 498 + 2 + " " + (7 + 4 * 498) + " 10");
    }

    private static String descending(String behind) {
        StringBuilder all = new StringBuilder();
        for (int i = 32; i >= 1; i--) {
            all.append(i).append(behind).append(' ');
        }
        return all.toString();
    }

    /** The names of the variables from 7 on, - for a new one. */
    private static String names(FlowReader reader) {
        StringBuilder all = new StringBuilder();
        for (int v = 7; v < reader.count(1); v++) {
            String name = Check.name(reader, v);
            all.append(v == 7 ? "" : " ").append(name.isEmpty() ? "-" : name);
        }
        return all.toString();
    }

    /** All six answers of node for statement s. */
    private static void node(String text, int s, String want) {
        FlowReader reader = Check.after(text);
        StringBuilder got = new StringBuilder();
        for (int what = 0; what <= 5; what++) {
            got.append(what == 0 ? "" : " ").append(reader.node(s, what));
        }
        CHECK.due("node of statement " + s + " of " + text, got.toString(), want);
    }

    private static void due(String text, int first, String... lines) {
        CHECK.dueKernel(text, first, lines);
    }
}
