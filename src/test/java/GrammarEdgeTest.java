/**
 * The edges of the grammar, a method a sentence: what may be left out, what must stand at least
 * once, what may stand once alone.
 */
public final class GrammarEdgeTest {
    private static final Check CHECK = new Check();

    public static void main(String[] args) {
        bodiesHaveAnItem();
        localsHaveAVariable();
        elseMayBeLeftOut();
        elseMustStandInAnExp();
        casesHaveAnOf();
        triesHaveACatch();
        raiseAndShowHaveAnExp();
        anItemBeginsWithNoLocalIfCaseThread();
        anItemOfExpsHasOneEqual();
        applicationsHaveAnExp();
        oneComparison();
        sumsAndProducts();
        pairs();
        features();
        theBracketIsNextToItsAtom();
        bracketsHoldOneExp();
        listsMayBeEmpty();
        parametersMayBeNone();
        valuesEndWithAnExp();
        fieldsMayBeNone();
        fieldsAreOfOneKind();
        featureIsWhatHasAColonBehindIt();
        patterns();
        slots();
        CHECK.end();
    }

    /** "program: body. body: item+": none, one, two in every place of a body. */
    private static void bodiesHaveAnItem() {
        String[][] around = {
            {"", ""}, {"local X in ", " end"}, {"if 1 then ", " end"}, {"if 1 then skip else ", " end"},
            {"case 1 of 1 then ", " end"}, {"case 1 of 1 then skip of 2 then ", " end"},
            {"case 1 of 1 then skip else ", " end"}, {"thread ", " end"},
            {"try ", " catch E then skip end"}, {"try skip catch E then ", " end"},
            {"Wait = proc {} ", " end"}, {"Wait = fun {} do ", " in 1 end"},
            {"Wait = thread do ", " in 1 end"}, {"Wait = local X in do ", " in X end"},
            {"Wait = if 1 then do ", " in 1 else 2 end"}, {"Wait = if 1 then 2 else do ", " in 1 end"},
            {"Wait = case 1 of 1 then do ", " in 1 end"},
        };
        for (String[] one : around) {
            String closer = one[1].isEmpty() ? "" : one[1].substring(1);
            CHECK.dueEdge(one[0] + "skip" + one[1], one[0] + "^" + closer, 11);
            CHECK.dueNoFault(one[0] + "skip skip" + one[1]);
        }
    }

    /** "local VARIABLE+ in" */
    private static void localsHaveAVariable() {
        CHECK.dueEdge("local X in skip end", "local ^in skip end", 11);
        CHECK.dueEdge("Wait = local X in 1 end", "Wait = local ^in 1 end", 11);
        CHECK.dueEdge("local X Y in skip end", "local X ^_ in skip end", 11);
        at("local ^_ in skip end", 11);
        at("local X ^skip end", 11);
        at("local X in skip^", 11);
    }

    /** "if exp then body [else body] end", "case .. [else body] end", "case .. [else value] end" */
    private static void elseMayBeLeftOut() {
        CHECK.dueNoFault("if 1 then skip end");
        CHECK.dueEdge("if 1 then skip else skip end", "if 1 then skip else skip ^else skip end", 11);
        CHECK.dueNoFault("case 1 of 1 then skip end");
        CHECK.dueEdge("case 1 of 1 then skip else skip end",
                "case 1 of 1 then skip else skip ^else skip end", 11);
        CHECK.dueNoFault("Wait = case 1 of 1 then 1 end");
        CHECK.dueEdge("Wait = case 1 of 1 then 1 else 1 end",
                "Wait = case 1 of 1 then 1 else 1 ^else 1 end", 11);
        at("if 1 ^else skip end", 11);
        at("if 1 then ^else skip end", 11);
    }

    /** "if exp then value else value end" */
    private static void elseMustStandInAnExp() {
        CHECK.dueEdge("Wait = if 1 then 2 else 3 end", "Wait = if 1 then 2 ^end", 11);
        at("Wait = if 1 then 2 else 3 ^else 4 end", 11);
        at("Wait = if 1 then 2 else ^end", 11);
        at("Wait = if 1 then ^skip else 3 end", 11);
    }

    /** "case exp of pattern then body (of pattern then body)*" */
    private static void casesHaveAnOf() {
        CHECK.dueEdge("case 1 of 1 then skip end", "case 1 ^end", 11);
        at("case 1 ^else skip end", 11);
        CHECK.dueEdge("case 1 of 1 then skip of 2 then skip else skip end",
                "case 1 of 1 then skip else skip ^of 2 then skip end", 11);
        CHECK.dueEdge("Wait = case 1 of 1 then 1 of 2 then 2 end", "Wait = case 1 ^end", 11);
        at("Wait = case 1 of 1 then 1 else 1 ^of 2 then 2 end", 11);
        CHECK.dueNoFault("case 1 " + Check.many("of 1 then skip ", 374) + "end");
        CHECK.dueNoFault("Wait = case 1 " + Check.many("of 1 then 1 ", 373) + "end");
    }

    /** "try body catch VARIABLE then body end" */
    private static void triesHaveACatch() {
        CHECK.dueEdge("try skip catch X then skip end", "try skip ^end", 11);
        at("try skip catch ^_ then skip end", 11);
        at("try skip catch ^then skip end", 11);
        at("try skip catch X ^Y then skip end", 11);
        at("try skip catch X then skip ^catch X then skip end", 11);
        at("Wait = ^try skip catch X then skip end", 11);
    }

    /** "raise exp | show exp" */
    private static void raiseAndShowHaveAnExp() {
        CHECK.dueEdge("raise 1", "raise^", 11);
        CHECK.dueEdge("show 1", "show^", 11);
        CHECK.dueEdge("show if 1 then 2 else 3 end", "show ^show 1", 11);
        CHECK.dueEdge("raise local X in X end", "raise ^raise 1", 11);
        at("show 1 ^= 2", 11);
        at("raise 1 ^= 2", 11);
        at("Wait = ^skip", 11);
        at("Wait = ^show 1", 11);
    }

    /** "an exp with which an item begins does not begin with local, if, case, thread" */
    private static void anItemBeginsWithNoLocalIfCaseThread() {
        String[][] exps = {
            {"local X in ", "1", " end"}, {"if 1 then ", "1", " else 2 end"},
            {"case 1 of 1 then ", "1", " else 2 end"}, {"thread ", "1", " end"},
        };
        for (String[] one : exps) {
            String exp = one[0] + one[1] + one[2];
            String asItem = one[0] + "skip" + one[2].replace("2", "skip");
            String refused = one[0] + one[1] + " ^" + one[2].substring(1) + " = Wait";
            CHECK.dueEdge("Wait = " + exp, refused, 11);
            CHECK.dueEdge("(" + exp + ") = Wait", asItem + " ^= Wait", 11);
            at(asItem + " ^+ 1 = Wait", 11);
            at(asItem + " ^.a = Wait", 11);
            at(asItem + " ^| 1 = Wait", 11);
            CHECK.dueNoFault("1 + " + exp + " = Wait");
            CHECK.dueNoFault("[" + exp + "] = Wait");
            CHECK.dueNoFault("Wait = " + exp + " + 1");
            CHECK.dueNoFault("Wait = " + exp + ".a");
            CHECK.dueNoFault("show " + exp);
            CHECK.dueNoFault(asItem + " " + asItem);
        }
        CHECK.dueNoFault("proc {} skip end = Wait");
        CHECK.dueNoFault("fun {} 1 end = Wait");
    }

    /** "exp = exp" */
    private static void anItemOfExpsHasOneEqual() {
        CHECK.dueEdge("1 = 2", "1 = 2 ^= 3", 11);
        at("1 =^", 11);
        at("^= 1", 11);
        at("1 = ^= 1", 11);
        at("(1 ^= 2) = 3", 11);
        at("show [1 ^= 2]", 11);
        CHECK.dueNoFault("1 = 2 3 = 4");
    }

    /** "{ exp exp* }", as an item and as an exp */
    private static void applicationsHaveAnExp() {
        CHECK.dueEdge("{Wait}", "{^}", 11);
        CHECK.dueEdge("show {Wait}", "show {^}", 11);
        CHECK.dueNoFault("{1} {1 2} {if 1 then 2 else 3 end {Wait} [1]}");
        at("{Wait ^)", 11);
        at("{Wait ^skip}", 11);
        at("{Wait^", 11);
    }

    /** "compared: sum [== sum | < sum | =< sum]" */
    private static void oneComparison() {
        for (String one : new String[] {"==", "<", "=<"}) {
            for (String other : new String[] {"==", "<", "=<"}) {
                CHECK.dueEdge("show 1 " + one + " 2", "show 1 " + one + " 2 ^" + other + " 3", 11);
                at("show 1 " + one + " 2 + 3 ^" + other + " 4", 11);
                CHECK.dueNoFault("show (1 " + one + " 2) " + other + " 3");
                CHECK.dueNoFault("show 1 " + one + " (2 " + other + " 3)");
                CHECK.dueNoFault("show 1 " + one + " 2 | 3 " + other + " 4");
            }
            at("show ^" + one + " 1", 11);
            at("show 1 " + one + "^", 11);
        }
    }

    /** "sum: product ((+ | -) product)*. product: part ((* | div | mod) part)*" */
    private static void sumsAndProducts() {
        for (String sign : new String[] {"+", "-", "*", "div", "mod"}) {
            CHECK.dueNoFault("show 1 " + Check.many(sign + " 1 ", 749));
            CHECK.dueEdge("show 1", "show 1 " + sign + "^", 11);
            at("show ^" + sign + " 1", 11);
            at("show 1 " + sign + " ^" + sign + " 1", 11);
            at("show 1 " + sign + " ^end", 11);
        }
    }

    /** "exp: compared, or compared | exp" */
    private static void pairs() {
        CHECK.dueNoFault("show 1" + Check.many("|1", 749));
        CHECK.dueEdge("show 1|2", "show 1|^", 11);
        at("show ^|1", 11);
        at("show 1|^|1", 11);
        at("show [1|^]", 11);
    }

    /** "part: atomic (. feature)*. feature: ATOM | INTEGER" */
    private static void features() {
        CHECK.dueNoFault("show Wait");
        CHECK.dueNoFault("show Wait" + Check.many(".a", 749));
        CHECK.dueNoFault("show Wait . a . 1");
        for (String no : new String[] {"X", "Wait", "_", "(", "[", "{", "end", ".", "if"}) {
            CHECK.dueEdge("show Wait.a", "show Wait.^" + no, 11);
        }
        at("show Wait.^", 11);
        at("show ^.a", 11);
        CHECK.dueEdge("show Wait.f [1] = Wait", "show Wait.f(1^", 11);
        CHECK.dueNoFault("show Wait.f(1) = Wait");
        CHECK.dueNoFault("show f(1).1 show [1].1 show {Wait}.1 show 1.1 show a.1 show _.1 show (1).1");
        CHECK.dueNoFault("show proc {} skip end.1 show fun {} 1 end.1 show thread 1 end.1");
    }

    /** "ATOM ( fields ), the bracket next to it" */
    private static void theBracketIsNextToItsAtom() {
        CHECK.dueEdge("show f(a:1)", "show f (a^:1)", 11);
        for (String between : new String[] {" ", "\t", "\n", "\r", "%\n", "% f\n"}) {
            FlowReader reader = Check.after("Wait = [f" + between + "(Wait)]");
            CHECK.due("two exps", Check.statement(reader, 2), "RECORD x8 a3 [1 0 2 9] > 3");
            CHECK.due("no record", Check.statement(reader, 1), "ATOM x7 a10 > 2");
        }
        FlowReader reader = Check.after("Wait = [f(Wait)]");
        CHECK.due("one exp", Check.statement(reader, 1), "RECORD x7 a10 [1 0] > 2");
        CHECK.dueEdge("show f( )", "show [f (^)]", 11);
        CHECK.dueEdge("show f()", "show f (^)", 11);
        CHECK.dueEdge("show [Wait(1)]", "show [Wait(a^:1)]", 11);
        CHECK.dueEdge("show [1(2)]", "show [1(^)]", 11);
        CHECK.dueEdge("show [_(2)]", "show [_(^)]", 11);
        CHECK.dueEdge("show abcdefghijklmnopqrstuvwx()", "show abcdefghijklmnopqrstuvwx (^)", 11);
    }

    /** "( exp )" */
    private static void bracketsHoldOneExp() {
        CHECK.dueEdge("show (1)", "show (^)", 11);
        at("show (1 ^2)", 11);
        at("show (1^", 11);
        at("show (1^]", 11);
        at("show 1^)", 11);
        at("show (^skip)", 11);
    }

    /** "[ exp* ]" */
    private static void listsMayBeEmpty() {
        CHECK.dueNoFault("show []");
        CHECK.dueNoFault("show [1] show [1 2]");
        CHECK.dueEdge("show [ ]", "show [^", 11);
        at("show [^)", 11);
        at("show [a^:1]", 11);
        at("show [1 ^skip]", 11);
    }

    /** "proc { VARIABLE* } body end | fun { VARIABLE* } value end" */
    private static void parametersMayBeNone() {
        CHECK.dueNoFault("Wait = proc {} skip end Wait = proc {X} skip end");
        CHECK.dueNoFault("Wait = fun {} 1 end Wait = fun {X} X end");
        for (String no : new String[] {"_", "1", "a", "(", "{", "end"}) {
            CHECK.dueEdge("Wait = proc {X} skip end", "Wait = proc {X ^" + no, 11);
            at("Wait = fun {^" + no, 11);
        }
        at("Wait = proc ^skip end", 11);
        at("Wait = fun ^(X) 1 end", 11);
        CHECK.dueEdge("Wait = proc {} skip end", "Wait = proc {} 1 ^end", 11);
        at("Wait = proc {} ^do skip in 1 end", 11);
    }

    /** "value: [do body in] exp" */
    private static void valuesEndWithAnExp() {
        String[][] around = {
            {"fun {} ", " end"}, {"local X in ", " end"}, {"if 1 then ", " else 1 end"},
            {"if 1 then 1 else ", " end"}, {"case 1 of 1 then ", " end"},
            {"case 1 of 1 then 1 else ", " end"}, {"thread ", " end"},
        };
        for (String[] one : around) {
            String open = "Wait = " + one[0];
            CHECK.dueEdge(open + "1" + one[1], open + "^" + one[1].substring(1), 11);
            CHECK.dueEdge(open + "do skip in 1" + one[1], open + "do skip in ^" + one[1].substring(1), 11);
            at(open + "do skip ^" + one[1].substring(1), 11);
            at(open + "do ^in 1" + one[1], 11);
            at(open + "1 ^2" + one[1], 11);
            at(open + "^skip" + one[1], 11);
            at(open + "do skip in ^do skip in 1" + one[1], 11);
        }
        at("^do skip in 1", 11);
        at("show ^do skip in 1", 11);
    }

    /** "fields: exp*, or (feature : exp)+" */
    private static void fieldsMayBeNone() {
        CHECK.dueNoFault("show f() show f(1) show f(1 2) show f(a:1) show f(a:1 b:2)");
        CHECK.dueEdge("show f(a:1)", "show f(a:^)", 11);
        at("show f(^:1)", 11);
        at("show f(^", 11);
        at("show f(1^", 11);
        at("show f(a:1^", 11);
        at("show f(a^", 11);
        at("show f(1^]", 11);
        at("show f(a:1^]", 11);
        at("show f(1 ^skip)", 11);
        at("show f(a:1 ^skip)", 11);
    }

    /** "exp*, or (feature : exp)+": never both. */
    private static void fieldsAreOfOneKind() {
        CHECK.dueEdge("show f(1 a)", "show f(1 a^:1)", 11);
        CHECK.dueEdge("show f(a:1 b:2)", "show f(a:1 b^)", 11);
        at("show f(a:1 b ^c:3)", 11);
        at("show f(a:1 ^Wait)", 11);
        at("show f(a:1 ^_)", 11);
        at("show f(a:1 ^(2))", 11);
        at("show f(a:1 b^+2)", 11);
        at("show f(a:b^:1)", 11);
        at("show f(a:1 2^)", 11);
    }

    /** "(an ATOM or INTEGER with : behind it is a feature)" */
    private static void featureIsWhatHasAColonBehindIt() {
        CHECK.dueEdge("show f(a)", "show f((a)^:1)", 11);
        CHECK.dueEdge("show f(1:1 a : 2 b%\n:%\n3)", "show f(Wait^:1)", 11);
        at("show f(_^:1)", 11);
        at("show f(a.b^:1)", 11);
        at("show f(1+1^:1)", 11);
        at("show f(g()^:1)", 11);
        at("show f(~1 1^:1)", 11);
        CHECK.dueNoFault("show f(33) show f(0) show f(~1) show f(33 33)");
    }

    /** "pattern: INTEGER | ATOM | ATOM ( slots ) | slot | slot" */
    private static void patterns() {
        for (String fine : new String[] {"1", "~1", "2147483647", "a", "f()", "f(X)", "X|Y", "_|_", "X|_", "_|X"}) {
            CHECK.dueNoFault("case 1 of " + fine + " then skip end");
            CHECK.dueNoFault("Wait = case 1 of " + fine + " then 1 end");
        }
        String[] refused = {
            "^then", "X ^then", "_ ^then", "X|^then", "^|X then", "X|^1 then", "X|^a then", "1^|X then",
            "a^|X then", "f(X)^|Y then", "X|Y^|Z then", "^(X|Y) then", "^[X] then", "^[] then",
            "^{X} then", "1^+1 then", "a^.b then", "1 ^2 then", "X^(Y) then", "1^(X) then", "^if then",
        };
        for (String one : refused) {
            at("case 1 of " + one + " skip end", 11);
        }
    }

    /** "slot: VARIABLE | _ . slots: slot*, or (feature : slot)+" */
    private static void slots() {
        for (String fine : new String[] {"", "X", "_", "X Y", "_ _", "a:X", "a:_", "1:X a:Y", "2:_ 1:_", "a : X"}) {
            CHECK.dueNoFault("case 1 of f(" + fine + ") then skip end");
        }
        String[] refused = {
            "a^)", "1^)", "a:^)", "^:X)", "a:^1)", "a:^b)", "a:^(X))", "^(X))", "^[X])", "X ^a:Y)", "X ^1)",
            "a:X ^Y)", "a:X ^_)", "a:X b^)", "a ^X)", "X^:Y)", "_^:Y)", "X^|Y)", "a:X^|Y)", "g^(X))", "^", "X^",
            "a:X^", "X^]", "^skip)",
        };
        for (String one : refused) {
            at("case 1 of f(" + one, 11);
        }
    }

    private static void at(String marked, int kind) {
        CHECK.dueFaultAtMark(marked, kind);
    }
}
