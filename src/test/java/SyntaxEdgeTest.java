/**
 * The edges of the faults of syntax and of what is bound around, sentence by sentence: the last
 * case that is still allowed, and the first that is not.
 */
public final class SyntaxEdgeTest {
    private static final Check CHECK = new Check();
    private static final String[] BASIS = {
        "Wait", "Needed", "ByNeed", "NewCell", "Exchange", "NewPort", "Send"
    };
    private static final String MOST_VARIABLES = Check.numbered("V", 32);
    private static final String MOST_EXPS = Check.many("1 ", 32);

    public static void main(String[] args) {
        theFirstTokenCounts();
        theOneThatIsToldFirst();
        theEndCannotStandThere();
        behindAnExpWithWhichAnItemBegins();
        applicationsAlone();
        featuresTwiceInARecord();
        featuresTwiceInAPattern();
        nothingAroundBindsIt();
        boundTwice();
        openAtOnce();
        whatIsOpened();
        whatClosesIt();
        doIsClosedByIn();
        theBracesOfParameters();
        variablesOfALocal();
        parameters();
        slotsByPlace();
        slotsByFeature();
        fieldsByPlace();
        fieldsByFeature();
        argumentsBehindWhatIsApplied();
        otherRowsHaveNoWidth();
        integersAsFeatures();
        boundByALocal();
        boundByParameters();
        boundByAPattern();
        boundByACatch();
        theBasisIsEverywhere();
        insideHidesWhatIsAround();
        CHECK.end();
    }

    /** "at the first token at which one is so" */
    private static void theFirstTokenCounts() {
        at("show ^X = Y", 13);
        at("show Wait.^33 X", 17);
        at("local X ^X Wait = Y", 14);
        at("show f(a:1 ^a:X)", 12);
        at("skip ^end X", 11);
        at("show [Wait ^X Wait.33]", 13);
    }

    /** "of several the one that is told first" */
    private static void theOneThatIsToldFirst() {
        at("Wait ^X", 11);
        at("Wait ^(", 11);
        at("Wait ^local", 11);
        at("show " + Check.many("(", 24) + "1 ^(", 11);
        at("show " + Check.many("(", 24) + "^do", 11);
        at("show f(" + MOST_EXPS + "^=", 11);
        at("show f(" + MOST_EXPS + "^]", 11);
        at("show f(" + MOST_EXPS + "^", 11);
        at("{Wait " + MOST_EXPS + "^)", 11);
        at("{Wait " + MOST_EXPS + "^", 11);
        at("show f(" + MOST_EXPS + "^X", 13);
        at("{Wait " + MOST_EXPS + "^X", 13);
        at("local " + MOST_VARIABLES + " ^V1", 14);
        at("local " + MOST_VARIABLES + " ^x", 11);
        at("Wait = proc {" + MOST_VARIABLES + " ^V32", 14);
        at("case 1 of f(" + MOST_VARIABLES + " ^V32", 14);
        at("case 1 of f(" + MOST_VARIABLES + " ^x", 11);
        at("show f(" + Check.numbered("", 32, ":1") + " ^1", 12);
        at("show f(" + Check.numbered("", 32, ":1") + " ^33", 16);
        at("show f(" + Check.numbered("", 32, ":1") + " ^0", 16);
        at("show f(" + Check.numbered("", 32, ":1") + " ^X", 11);
        at("case 1 of f(" + Check.numbered("", 32, ":_") + " ^32", 12);
        at("case 1 of f(" + Check.numbered("", 32, ":_") + " ^33", 16);
        at("case 1 of f(" + Check.numbered("", 32, ":_") + " ^X", 11);
        at("show " + Check.many("(", 23) + "f(" + MOST_EXPS + "^(", 15);
        at("show " + Check.many("(", 23) + "{1 " + MOST_EXPS + "^if", 15);
        at("show " + Check.many("(", 22) + "{1 " + MOST_EXPS + "^if", 16);
        at("show " + Check.many("(", 23) + "f(" + MOST_EXPS + "^do", 11);
    }

    /** "1 it cannot stand there (the end, too" */
    private static void theEndCannotStandThere() {
        String whole = "local X in if 1 then skip else case X of f(a:Y 2:_) then try raise Y . a catch E then "
                + "thread {Wait (1) [2] g(b:3)} end end of H | T then X = proc {A} skip end else X = fun {} do skip in "
                + "if 1 == 2 then 3 else 4 end end end end end";
        CHECK.dueNoFault(whole);
        String[] tokens = whole.replaceAll("([(){}\\[\\]:])", " $1 ").trim().split("\\s+");
        StringBuilder begun = new StringBuilder();
        for (int i = 0; i + 1 < tokens.length; i++) {
            boolean next = tokens[i + 1].equals("(") && Check.isLetter(tokens[i].charAt(0)) && !tokens[i].equals("Wait");
            begun.append(tokens[i]).append(next ? "" : " ");
            at(begun + "^", 11);
        }
        at("^", 11);
        at(" ^", 11);
    }

    /** "behind an exp with which an item begins, that is not { .. } alone, any token but .. = " */
    private static void behindAnExpWithWhichAnItemBegins() {
        String[] exps = {
            "Wait", "1", "a", "_", "f(1)", "[1]", "(1)", "proc {} skip end", "fun {} 1 end", "1 + 2", "1 == 2",
            "1 | 2", "Wait.a", "({Wait})", "{Wait}.a", "{Wait} + 1", "{Wait} < 1", "{Wait} | 1", "f()", "[]",
        };
        String[] others = {
            "skip", "end", "Wait", "X", "7", "a", "_", "[", "{", ")", "}", "]", ":", "then", "in", "local", "if",
            "case", "thread", "try", "raise", "show", "proc", "fun", "do",
        };
        for (String exp : exps) {
            CHECK.dueEdge(exp + " = 1", exp + "^", 11);
            for (String other : others) {
                at(exp + " ^" + other, 11);
                at("skip " + exp + " ^" + other + " = 1", 11);
            }
        }
        CHECK.dueNoFault("1 + 2 * 3 . a | 4 == 5 = 6");
    }

    /** "that is not { .. } alone" */
    private static void applicationsAlone() {
        CHECK.dueEdge("{Wait}", "({Wait})^", 11);
        CHECK.dueEdge("{Wait} skip", "{Wait}.a ^skip", 11);
        CHECK.dueEdge("{Wait} {Wait}", "{Wait} * {Wait}^", 11);
        CHECK.dueEdge("{Wait} 1 = 2", "{Wait} ^end", 11);
        CHECK.dueEdge("{Wait} = 1", "{Wait}|1^", 11);
        CHECK.dueEdge("{Wait} [1] = 2", "{Wait} [1]^", 11);
        CHECK.dueEdge("{Wait} Wait = 1", "{Wait} ^X = 1", 13);
        CHECK.dueNoFault("thread {Wait} end if 1 then {Wait} else {Wait} end");
    }

    /** "2 a feature that its record .. has already" */
    private static void featuresTwiceInARecord() {
        CHECK.dueEdge("show f(a:1 b:2)", "show f(a:1 ^a:2)", 12);
        CHECK.dueEdge("show f(1:1 2:2)", "show f(1:1 ^1:2)", 12);
        CHECK.dueEdge("show f(1:1 10:2)", "show f(1:1 ^01:2)", 12);
        CHECK.dueEdge("show f(a:1 aa:2 aA:3)", "show f(a:1 aa:2 aA:3 ^aa:4)", 12);
        CHECK.dueEdge("show f(" + Check.numbered("a", 32, ":1") + ")",
                "show f(" + Check.numbered("a", 31, ":1") + " ^a1:1)", 12);
        CHECK.dueEdge("show f(" + Check.numbered("", 32, ":1") + ")",
                "show f(" + Check.numbered("", 31, ":1") + " ^31:1)", 12);
        CHECK.dueNoFault("show f(a:f(a:f(a:1)) b:f(a:1 b:2))");
        CHECK.dueEdge("show f(f:1)", "show f(a:f(a:1) ^a:2)", 12);
        CHECK.dueNoFault("show f(true:1 1:2)");
        CHECK.dueEdge("show f(true:1 false:2)", "show f(true:1 ^true:2)", 12);
        at("show f(a:1 ^a ", 12);
    }

    /** "2 a feature that its .. pattern has already" */
    private static void featuresTwiceInAPattern() {
        CHECK.dueEdge("case 1 of f(a:_ b:_) then skip end", "case 1 of f(a:_ ^a:_) then skip end", 12);
        CHECK.dueEdge("case 1 of f(1:_ 2:_) then skip end", "case 1 of f(1:_ ^1:_) then skip end", 12);
        CHECK.dueEdge("case 1 of f(" + Check.numbered("", 32, ":_") + ") then skip end",
                "case 1 of f(" + Check.numbered("", 31, ":_") + " ^1:_) then skip end", 12);
        CHECK.dueNoFault("case f(a:1) of f(a:_) then skip of f(a:_) then skip of g(a:_) then show f(a:1) end");
    }

    /** "3 a VARIABLE that nothing around binds" */
    private static void nothingAroundBindsIt() {
        String[] places = {
            "show ", "raise ", "", "Wait = ", "{", "{Wait ", "show f(", "show f(a:", "show [", "show (", "show 1 + ",
            "show 1 * ", "show 1 == ", "show 1 | ", "if ", "case ", "show if ", "show case ", "show thread ",
            "show fun {} ", "show if 1 then ", "show if 1 then 2 else ", "show case 1 of 1 then ",
            "thread ", "try ", "local Y in ", "show local Y in ", "show proc {} ",
        };
        for (String place : places) {
            at(place + "^X", 13);
            FlowReader reader = Check.after(place + "Wait");
            CHECK.due(place + "Wait has no fault 13", reader.fault(0) == 13, false);
        }
        CHECK.dueEdge("local X in show X end", "local X in show ^XX end", 13);
        CHECK.dueEdge("local Xy in show Xy end", "local Xy in show ^XY end", 13);
    }

    /** "4 a VARIABLE bound twice by one local, one row of parameters, one pattern" */
    private static void boundTwice() {
        CHECK.dueEdge("local X Y in skip end", "local X ^X in skip end", 14);
        CHECK.dueEdge("local X in local X in skip end end", "local X Y ^X in skip end", 14);
        CHECK.dueEdge("local " + MOST_VARIABLES + " in skip end",
                "local " + Check.numbered("V", 31) + " ^V1 in skip end", 14);
        CHECK.dueEdge("show local X Y in 1 end", "show local X ^X in 1 end", 14);
        CHECK.dueEdge("show proc {X Y} skip end", "show proc {X ^X} skip end", 14);
        CHECK.dueEdge("show fun {X Y} proc {X} skip end end", "show fun {X Y ^Y} 1 end", 14);
        CHECK.dueEdge("case 1 of f(X Y) then skip end", "case 1 of f(X ^X) then skip end", 14);
        CHECK.dueEdge("case 1 of f(a:X b:Y) then skip end", "case 1 of f(a:X b:^X) then skip end", 14);
        CHECK.dueEdge("case 1 of X|Y then skip end", "case 1 of X|^X then skip end", 14);
        CHECK.dueEdge("case 1 of _|_ then skip of f(_ _) then skip end", "case 1 of f(_ X _ ^X) then skip end", 14);
        CHECK.dueNoFault("case 1 of X|_ then skip of X|_ then skip of f(X) then skip end");
        CHECK.dueNoFault("local Wait Send in skip end show proc {Wait} skip end case 1 of Wait|Send then skip end");
        CHECK.dueEdge("local Wait in skip end", "local Wait ^Wait in skip end", 14);
        CHECK.dueNoFault("local X in try skip catch X then show proc {X} case X of X|_ then skip end end end end");
    }

    /** "5 too deep: with it more than 24 of ( [ { local if case do proc fun thread try are open" */
    private static void openAtOnce() {
        String[][] both = {
            {"(", ")"}, {"[", "]"}, {"{", "}"}, {"f(", ")"}, {"f(a:", ")"}, {"{1 ", "}"}, {"[1 ", "]"},
            {"local X in ", " end"}, {"if ", " then 1 else 2 end"}, {"if 1 then ", " else 2 end"},
            {"if 1 then 2 else ", " end"}, {"case ", " of 1 then 2 end"}, {"case 1 of 1 then ", " end"},
            {"case 1 of 1 then 2 else ", " end"}, {"thread ", " end"},
        };
        for (String[] one : both) {
            String opened = "show " + Check.many(one[0], 24);
            CHECK.dueEdge(opened + "1" + Check.many(one[1], 24),
                    opened + "^(1)" + Check.many(one[1], 24), 15);
            CHECK.dueNoFault("show " + Check.many(one[0], 23) + "(1)" + Check.many(one[1], 23));
            CHECK.dueNoFault(Check.many(opened + "1" + Check.many(one[1], 24) + " ", 2));
        }
        String[][] items = {
            {"local X in ", " end"}, {"if 1 then ", " end"}, {"if 1 then skip else ", " end"},
            {"case 1 of 1 then ", " end"}, {"case 1 of 1 then skip else ", " end"}, {"thread ", " end"},
            {"try ", " catch E then skip end"}, {"try skip catch E then ", " end"},
        };
        for (String[] one : items) {
            String opened = Check.many(one[0], 24);
            CHECK.dueEdge(opened + "skip" + Check.many(one[1], 24), opened + "^{Wait}" + Check.many(one[1], 24), 15);
        }
    }

    /** "( [ { local if case do proc fun thread try": each as the 24th and as the 25th. */
    private static void whatIsOpened() {
        String[] exps = {
            "(1)", "[1]", "{1}", "local X in 1 end", "if 1 then 1 else 1 end", "case 1 of 1 then 1 end", "thread 1 end",
        };
        for (String exp : exps) {
            CHECK.dueEdge("show " + Check.many("(", 23) + exp + Check.many(")", 23),
                    "show " + Check.many("(", 24) + "^" + exp + Check.many(")", 24), 15);
        }
        String[] procedures = {"proc {} skip end", "fun {} 1 end"};
        for (String exp : procedures) {
            CHECK.dueEdge("show " + Check.many("(", 22) + exp + Check.many(")", 22),
                    "show " + Check.many("(", 24) + "^" + exp + Check.many(")", 24), 15);
        }
        CHECK.dueEdge("show " + Check.many("(", 23) + "f(1)" + Check.many(")", 23),
                "show " + Check.many("(", 24) + "f^(1)" + Check.many(")", 24), 15);
        CHECK.dueEdge("show " + Check.many("(", 22) + "case 1 of f(X) then 1 end" + Check.many(")", 22),
                "show " + Check.many("(", 23) + "case 1 of f^(X) then 1 end" + Check.many(")", 23), 15);
        String[] items = {
            "local X in skip end", "if 1 then skip end", "case 1 of 1 then skip end", "thread skip end",
            "try skip catch E then skip end", "{Wait}", "(1) = 2", "[1] = 2",
        };
        for (String item : items) {
            CHECK.dueEdge(Check.many("thread ", 23) + item + Check.many(" end", 23),
                    Check.many("thread ", 24) + "^" + item + Check.many(" end", 24), 15);
        }
        CHECK.dueNoFault(Check.many("thread ", 24) + "skip show 1 raise 2 Wait = 3" + Check.many(" end", 24));
    }

    /** "up to what closes them" */
    private static void whatClosesIt() {
        String[] closed = {
            "(1)", "[1]", "{1}", "f(1)", "f()", "f(a:1)", "local X in 1 end", "if 1 then 1 else 1 end",
            "case 1 of 1 then 1 end", "case 1 of X|_ then 1 end", "thread 1 end",
        };
        for (String one : closed) {
            String opened = "show " + Check.many("[", 23);
            CHECK.dueEdge(opened + one + " " + one + " (1)" + Check.many("]", 23),
                    opened + one + " [^(1)" + Check.many("]", 23), 15);
        }
        String opened = "show " + Check.many("[", 22);
        for (String two : new String[] {
            "proc {X} skip end", "fun {X} 1 end", "thread do skip in 1 end", "case 1 of f(X) then 1 end",
        }) {
            CHECK.dueEdge(opened + two + " " + two + " [(1)]" + Check.many("]", 22),
                    opened + two + " [[^(1)" + Check.many("]", 22), 15);
        }
        String items = Check.many("thread ", 23);
        CHECK.dueEdge(items + "try skip catch E then skip end try skip catch E then skip end" + Check.many(" end", 23),
                items + "try skip catch E then ^try", 15);
        at(items + "try ^try", 15);
        at(items + "if 1 then skip else ^if", 15);
    }

    /** "(of do in)" */
    private static void doIsClosedByIn() {
        String opened = "show " + Check.many("(", 22);
        CHECK.dueEdge(opened + "thread do skip in (1) end" + Check.many(")", 22),
                opened + "thread do ^{Wait} in 1 end" + Check.many(")", 22), 15);
        CHECK.dueEdge("show " + Check.many("(", 23) + "thread 1 end" + Check.many(")", 23),
                "show " + Check.many("(", 23) + "thread ^do skip in 1 end" + Check.many(")", 23), 15);
        CHECK.dueEdge(opened + "thread do skip in (1) end" + Check.many(")", 22),
                opened + "thread do skip in (^(1)) end" + Check.many(")", 22), 15);
    }

    /** The braces of parameters are among "( [ {". */
    private static void theBracesOfParameters() {
        for (String word : new String[] {"proc", "fun"}) {
            String rest = word.equals("proc") ? " skip end" : " 1 end";
            CHECK.dueEdge("show " + Check.many("(", 22) + word + " {}" + rest + Check.many(")", 22),
                    "show " + Check.many("(", 23) + word + " ^{}" + rest + Check.many(")", 23), 15);
        }
        CHECK.dueEdge("show " + Check.many("fun {} ", 23) + "(1)" + Check.many(" end", 23),
                "show " + Check.many("fun {} ", 23) + "fun ^{}", 15);
        CHECK.dueNoFault("show " + Check.many("(", 22) + "fun {X Y} (1) end" + Check.many(")", 22));
        CHECK.dueNoFault("show " + Check.many("(", 22) + "proc {X Y} {Wait} end" + Check.many(")", 22));
    }

    /** "6 the 33rd variable .. of one of these, at its first token" */
    private static void variablesOfALocal() {
        CHECK.dueEdge("local " + MOST_VARIABLES + " in skip end", "local " + MOST_VARIABLES + " ^W in skip end", 16);
        CHECK.dueEdge("show local " + MOST_VARIABLES + " in 1 end", "show local " + MOST_VARIABLES + " ^W in 1 end", 16);
        CHECK.dueNoFault("local " + MOST_VARIABLES + " in local W in local " + MOST_VARIABLES + " in skip end end end");
    }

    /** "6 the 33rd .. parameter" */
    private static void parameters() {
        CHECK.dueEdge("show proc {" + MOST_VARIABLES + "} skip end", "show proc {" + MOST_VARIABLES + " ^W} skip end", 16);
        CHECK.dueEdge("show fun {" + MOST_VARIABLES + "} 1 end", "show fun {" + MOST_VARIABLES + " ^W} 1 end", 16);
        FlowReader reader = Check.after("Wait = fun {" + MOST_VARIABLES + "} _ end");
        CHECK.due("items of the widest fun", reader.node(0, 5), 33);
        CHECK.due("the last of them", reader.item(0, 32), 39);
    }

    /** "6 the 33rd .. slot", of slot* */
    private static void slotsByPlace() {
        CHECK.dueEdge("case 1 of f(" + MOST_VARIABLES + ") then skip end",
                "case 1 of f(" + MOST_VARIABLES + " ^W) then skip end", 16);
        CHECK.dueEdge("case 1 of f(" + Check.many("_ ", 32) + ") then skip end",
                "case 1 of f(" + Check.many("_ ", 32) + "^_) then skip end", 16);
        at("show case 1 of f(" + Check.many("_ ", 32) + "^W) then 1 end", 16);
    }

    /** "6 the 33rd .. slot", of (feature : slot)+ */
    private static void slotsByFeature() {
        CHECK.dueEdge("case 1 of f(" + Check.numbered("", 32, ":_") + ") then skip end",
                "case 1 of f(" + Check.numbered("", 32, ":_") + " ^a:_) then skip end", 16);
        CHECK.dueEdge("case 1 of f(" + Check.numbered("a", 32, ":_") + ") then skip end",
                "case 1 of f(" + Check.numbered("a", 32, ":_") + " ^1:_) then skip end", 16);
    }

    /** "6 the 33rd .. field", of exp* */
    private static void fieldsByPlace() {
        CHECK.dueEdge("show f(" + MOST_EXPS + ")", "show f(" + MOST_EXPS + "^1)", 16);
        for (String exp : new String[] {"a", "Wait", "_", "(1)", "[1]", "{1}", "g(1)", "1 + 1", "a:1", "if", "proc"}) {
            at("show f(" + MOST_EXPS + "^" + exp, 16);
        }
        CHECK.dueEdge("show f(" + Check.many("g(1 1) ", 32) + ")", "show f(" + Check.many("g(1 1) ", 32) + "^g(1 1))", 16);
        FlowReader reader = Check.after("Wait = f(" + Check.many("Send ", 32) + ")");
        CHECK.due("items of the widest record", reader.node(0, 5), 64);
        CHECK.due("its last feature", reader.item(0, 62), 32);
    }

    /** "6 the 33rd .. field", of (feature : exp)+ */
    private static void fieldsByFeature() {
        CHECK.dueEdge("show f(" + Check.numbered("", 32, ":1") + ")", "show f(" + Check.numbered("", 32, ":1") + " ^a:1)", 16);
        CHECK.dueEdge("show f(" + Check.numbered("a", 32, ":1") + ")", "show f(" + Check.numbered("a", 32, ":1") + " ^1:1)", 16);
    }

    /** "6 the 33rd .. argument behind what is applied" */
    private static void argumentsBehindWhatIsApplied() {
        CHECK.dueEdge("{Wait " + MOST_EXPS + "}", "{Wait " + MOST_EXPS + "^1}", 16);
        CHECK.dueEdge("show {Wait " + MOST_EXPS + "}", "show {Wait " + MOST_EXPS + "^1}", 16);
        for (String exp : new String[] {"a", "Wait", "_", "(1)", "[1]", "{1}", "g(1)", "1 + 1", "if", "fun"}) {
            at("{Wait " + MOST_EXPS + "^" + exp, 16);
        }
        FlowReader reader = Check.after("Wait = {Send " + Check.many("Send ", 32) + "}");
        CHECK.due("items of the widest application, with x", reader.node(0, 5), 33);
        CHECK.due("x behind the others", reader.item(0, 32), 0);
    }

    /** What is not told to have a 33rd has one. */
    private static void otherRowsHaveNoWidth() {
        CHECK.dueNoFault("show [" + MOST_EXPS + "1]");
        CHECK.dueNoFault(Check.many("skip ", 33));
        CHECK.dueNoFault("show 1" + Check.many("|1", 33) + Check.many("+1", 33) + Check.many("*1", 33));
        CHECK.dueNoFault("show Wait" + Check.many(".a", 33));
        CHECK.dueNoFault("case 1 " + Check.many("of 1 then skip ", 33) + "end");
    }

    /** "7 an INTEGER as a feature that is not 1 .. 32" */
    private static void integersAsFeatures() {
        String[][] around = {
            {"show f(", ":1)"}, {"show f(a:1 ", ":1)"}, {"case 1 of f(", ":_) then skip end"},
            {"case 1 of f(a:X ", ":Y) then skip end"}, {"show Wait.", ""}, {"show Wait.a.", ".b"},
        };
        for (String[] one : around) {
            CHECK.dueEdge(one[0] + "1" + one[1], one[0] + "^0" + one[1], 17);
            CHECK.dueEdge(one[0] + "32" + one[1], one[0] + "^33" + one[1], 17);
            CHECK.dueEdge(one[0] + "032" + one[1], one[0] + "^00" + one[1], 17);
            for (String no : new String[] {"~1", "~32", "~2147483648", "2147483647", "~0"}) {
                at(one[0] + "^" + no + one[1], 17);
            }
        }
        CHECK.dueNoFault("show f(0 33 ~1)");
        CHECK.dueNoFault("case 1 of 0 then skip of 33 then skip of ~1 then skip end");
    }

    /** "BOUND around are the variables of a local (in its body)" */
    private static void boundByALocal() {
        CHECK.dueEdge("local X in show X end", "local X in skip end show ^X", 13);
        CHECK.dueEdge("local X in thread if X then X = X end end end", "show ^X local X in skip end", 13);
        CHECK.dueEdge("show local X in X end", "show local X in X end|^X", 13);
        CHECK.dueEdge("show local X in do X = 1 in X end", "{Wait ^X local X in X end}", 13);
        CHECK.dueEdge("local X Y in X = Y end", "local X in local Y in skip end X = ^Y end", 13);
    }

    /** "parameters (in the body)" */
    private static void boundByParameters() {
        CHECK.dueEdge("show proc {X} show X end", "show proc {X} skip end show ^X", 13);
        CHECK.dueEdge("show fun {X} X end", "show fun {X} X end|^X", 13);
        CHECK.dueEdge("show fun {X} do show X in X end", "show [^X fun {X} 1 end]", 13);
    }

    /** "those of a pattern (in its body)" */
    private static void boundByAPattern() {
        CHECK.dueEdge("case 1 of f(X) then show X end", "case ^X of f(X) then skip end", 13);
        CHECK.dueEdge("case 1 of f(a:X) then show X end", "case 1 of f(a:X) then skip end show ^X", 13);
        CHECK.dueEdge("case 1 of X|Y then X = Y end", "case 1 of X|_ then skip of _|_ then show ^X end", 13);
        CHECK.dueEdge("show case 1 of X|Y then X|Y end", "show case 1 of X|_ then X else ^X end", 13);
        CHECK.dueEdge("show case 1 of f(X) then do show X in X end", "show case 1 of f(X) then X end|^X", 13);
    }

    /** "of catch (in the body behind it)" */
    private static void boundByACatch() {
        CHECK.dueEdge("try skip catch X then show X end", "try show ^X catch X then skip end", 13);
        CHECK.dueEdge("try skip catch X then show X X = 1 end", "try skip catch X then skip end show ^X", 13);
    }

    /** "and everywhere those of the BASIS" */
    private static void theBasisIsEverywhere() {
        for (int v = 0; v < BASIS.length; v++) {
            CHECK.dueKernel("show " + BASIS[v], 0, "SHOW x" + v);
            CHECK.dueEdge("thread show fun {X} " + BASIS[v] + " end end", "show ^" + BASIS[v] + "s", 13);
            at("show ^" + BASIS[v].substring(0, BASIS[v].length() - 1), 13);
            CHECK.dueKernel("local " + BASIS[v] + " in skip end show " + BASIS[v], 1,
                    "SKIP", "LOCAL a0 [7] > 2", "SHOW x" + v);
        }
    }

    /** "What is bound inside hides what is around." */
    private static void insideHidesWhatIsAround() {
        CHECK.dueKernel("local X in show X local X in show X end show X end", 4,
                "SHOW x7 > 2", "SHOW x8", "LOCAL a1 [8] > 3", "SHOW x7", "LOCAL a0 [7]");
        CHECK.dueKernel("local X in X = proc {X} show X end show X end", 3,
                "SHOW x8", "PROCEDURE x7 a0 [8] > 2", "SHOW x7", "LOCAL a1 [7]");
        CHECK.dueKernel("local X in case X of X|_ then show X else show X end show X end", 4,
                "SHOW x8", "SHOW x7", "CASE x7 a0 b1 [2 3 1 8 2 -1] > 3", "SHOW x7", "LOCAL a2 [7]");
        CHECK.dueKernel("local X in try show X catch X then show X end show X end", 4,
                "SHOW x7", "SHOW x8", "TRY x8 a0 b1 > 3", "SHOW x7", "LOCAL a2 [7]");
        CHECK.dueKernel("local Wait Send in show Wait end show Wait", 1,
                "SHOW x7", "LOCAL a0 [7 8] > 2", "SHOW x0");
        CHECK.dueKernel("Wait = fun {Send} Send end show Send", 1,
                "SAME x8 a7", "PROCEDURE x0 a0 [7 8] > 2", "SHOW x6");
        CHECK.dueKernel("case Wait of f(a:Wait) then show Wait else show Wait end", 2,
                "SHOW x7", "SHOW x0", "CASE x0 a0 b1 [2 10 -12 7]");
    }

    private static void at(String marked, int kind) {
        CHECK.dueFaultAtMark(marked, kind);
    }
}
