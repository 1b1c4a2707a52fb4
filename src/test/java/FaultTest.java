/** Promises 4 and 5: the faults of tokens and of syntax, their kinds and places. */
public final class FaultTest {
    private static final Check CHECK = new Check();

    public static void main(String[] args) {
        tokens();
        names();
        integers();
        misplaced();
        misplacedInRecordsAndPatterns();
        itemsThatBeginWithAnExp();
        featuresTwice();
        unbound();
        boundTwice();
        wrongFeatures();
        orderOfFaults();
        placeLineAndColumn();
        CHECK.end();
    }

    private static void tokens() {
        at("^", 11);
        at("^!", 1);
        at("skip ^\"", 1);
        at("skip ^\u00e9", 1);
        at("skip ^\u0001", 1);
        at("show ^_a", 1);
        at("show ^__", 1);
        at("show ^_1", 1);
        at("show ^~", 1);
        at("show ^~ 1", 1);
        at("show ^~a", 1);
        at("% ! = end^", 11);
        fine("skip % ! = end \u00ff");
        fine("% skip\nskip%\r\n\t");
        fine("show 1=<2 show 1==2 _=_");
        at("show 1<^=2", 11);
        at("show 1 == ^=2", 11);
    }

    private static void names() {
        String longest = "abcdefghijklmnopqrstuv_1";
        fine("show " + longest);
        at("show ^" + longest + "x", 2);
        fine("local V" + longest.substring(1) + " in skip end");
        at("local ^V" + longest + " in skip end", 2);
        at("^skipskipskipskipskipskips", 2);
        fine("show skips show locals show ands show in_ show endX");
        CHECK.due("words are no atoms", Check.after("skip").count(2), 10);
    }

    private static void integers() {
        fine("show 2147483647 show ~2147483648 show 0000000000000000000000000001");
        at("show ^2147483648", 3);
        at("show ^~2147483649", 3);
        at("show ^99999999999999999999999999999999999999", 3);
        at("show ^~99999999999999999999999999999999999999", 3);
        at("show ^1a", 4);
        at("show ^12_", 4);
        at("show ^~3X", 4);
        at("show ^99999999999x", 4);
        CHECK.due("1~2", Check.kernel(Check.after("{1~2}")),
                "\n    0 NUMBER x7 a1 > 1\n    1 NUMBER x8 a-2 > 2\n    2 APPLY x7 [8]\n    3 LOCAL a0 [7 8]");
    }

    private static void misplaced() {
        String[] marked = {
            "skip ^end", "^end", "local ^in skip end", "local X ^skip end", "local X in ^end",
            "local X in skip^", "if 1 ^skip end", "if ^then skip end", "if 1 then ^end",
            "if 1 then skip else ^end", "if 1 then skip else skip ^else skip end",
            "case 1 ^then skip end", "case 1 of ^then skip end", "case 1 of 1 ^skip end",
            "case 1 of 1 then ^end", "case 1 of 1 then skip else skip ^of 2 then skip end",
            "thread ^end", "try skip ^end", "try ^catch X then skip end",
            "try skip catch ^x then skip end", "try skip catch X ^skip end",
            "raise ^end", "show^", "show 1 + ^", "show ^* 1", "show 1 == 2 ^== 3",
            "show 1 < 2 ^=< 3", "show (^)", "show (1 ^2)", "show (1^", "show [1^", "show [^}",
            "show {^}", "{^}", "show {Wait^", "show 1.^X", "show 1.^_", "show 1 | ^| 2",
            "show proc ^skip end", "show proc {^1} skip end", "show proc {X ^skip end",
            "show proc {} ^end", "show fun {} ^skip end", "show fun {} ^end",
            "show fun {} do ^in 1 end", "show fun {} do skip ^end", "show fun {} do skip in ^end",
            "show fun {} 1 ^2 end", "show local X in ^skip end", "show if 1 then 2 ^end",
            "show case 1 of 1 then ^skip end", "show thread ^skip end", "^do skip in 1",
            "^then", "^:", "^= 1", "show ^try skip catch X then skip end", "show 1 ^= 2",
            "show ^raise 1", "show ^do skip in 1",
        };
        for (String one : marked) {
            at(one, 11);
        }
    }

    private static void misplacedInRecordsAndPatterns() {
        String[] marked = {
            "show f(1 2^:3)", "show f(b:1 c^)", "show f(b:1 ^X:2)", "show f(b:1 ^_)", "show f(a:^)",
            "show f(1+2^:3)", "show f (1)^", "Wait = f (1)^", "show {f (1) ^", "f ^(1) = 1", "show f^:1", "show f(Wait^:1)",
            "case 1 of X ^then skip end", "case 1 of _ ^then skip end",
            "case 1 of X|^1 then skip end", "case 1 of 1^|X then skip end",
            "case 1 of f(a^) then skip end", "case 1 of f(1 ^X) then skip end",
            "case 1 of f(X ^1:Y) then skip end", "case 1 of f(1:X ^Y) then skip end",
            "case 1 of f(1:^2) then skip end", "case 1 of f(^(X)) then skip end",
            "case 1 of ^[X] then skip end", "case 1 of ^(1) then skip end", "case 1 of f(X^",
            "case 1 of X|Y^|Z then skip end",
        };
        for (String one : marked) {
            at(one, 11);
        }
        fine("case 1 of f (X) then show X end");
        fine("{Wait f (1)}");
    }

    private static void itemsThatBeginWithAnExp() {
        at("Wait^", 11);
        at("Wait ^skip", 11);
        at("1 + 2 ^skip", 11);
        at("{Wait}.a ^skip", 11);
        at("({Wait}) ^skip", 11);
        at("{Wait} + 1^", 11);
        at("{Wait}|1 ^end", 11);
        at("proc {} skip end^", 11);
        at("if 1 then skip end ^= 1", 11);
        at("local X in skip end ^.a = 1", 11);
        at("local X in X ^end", 11);
        at("thread 1 ^end", 11);
        fine("{Wait} {Wait} skip {Wait} = 1 {Wait}.a = 1 {Wait}|1 = 2 {Wait} (1) = 2");
        fine("proc {} skip end = Wait (local X in X end) = 1 _ = if 1 then 2 else 3 end");
    }

    private static void featuresTwice() {
        at("show f(a:1 b:2 ^a:3)", 12);
        at("show f(1:1 2:2 ^02:3)", 12);
        at("show f(a:1 ^a", 12);
        at("case 1 of f(a:_ ^a:_) then skip end", 12);
        at("case 1 of f(7:X ^7:Y) then skip end", 12);
        fine("show f(a:f(a:1) b:f(b:1))");
    }

    private static void unbound() {
        at("^X", 13);
        at("show ^X", 13);
        at("show f(1:^X)", 13);
        at("{Wait ^X}", 13);
        at("local X in skip end show ^X", 13);
        at("local X in show ^Y end", 13);
        at("case ^X of X|_ then skip end", 13);
        at("case 1 of X|_ then show X of _|_ then show ^X end", 13);
        at("case 1 of X|_ then show X else show ^X end", 13);
        at("try show ^E catch E then show E end", 13);
        at("try skip catch E then show E end show ^E", 13);
        at("_ = proc {X} show X end show ^X", 13);
        at("_ = local X in X end|^X", 13);
        at("show ^WaiT", 13);
        fine("show Wait|Needed|ByNeed|NewCell|Exchange|NewPort|Send");
    }

    private static void boundTwice() {
        at("local X ^X in skip end", 14);
        at("local X Y Z ^Y", 14);
        at("show proc {X Y ^X} skip end", 14);
        at("show fun {X ^X} 1 end", 14);
        at("case 1 of f(X ^X) then skip end", 14);
        at("case 1 of f(a:X b:^X) then skip end", 14);
        at("case 1 of X|^X then skip end", 14);
        fine("local X in local X in case 1 of f(X _ _) then _ = proc {X Wait} skip end end end end");
        fine("case 1 of X|_ then skip of X|_ then skip end");
    }

    private static void wrongFeatures() {
        at("show f(^0:1)", 17);
        at("show f(^33:1)", 17);
        at("show f(a:1 ^~1:1)", 17);
        at("show f(a:1 ^~11:1)", 17);
        at("show f(a:1 ^33)", 17);
        at("show Wait.^0", 17);
        at("show Wait.^33", 17);
        at("show Wait.^~2147483648", 17);
        at("case 1 of f(^33:X) then skip end", 17);
        at("case 1 of f(^0) then skip end", 17);
        fine("show f(32:1 1:1).32 case 1 of f(32:X 1:Y) then skip end");
        at("show f(33 33^:1)", 11);
    }

    /** The first token counts; at one token its own fault, then the one that is told first. */
    private static void orderOfFaults() {
        at("show ^X 3a", 13);
        at("skip ^3a", 4);
        at("Wait ^X", 11);
        at("local X ^1 X", 11);
        at("show f(a:1 ^a:2 a:3)", 12);
        at("^end !", 11);
        at("skip ^! end", 1);
    }

    private static void placeLineAndColumn() {
        place("X", "13 0 1 1");
        place(" X", "13 1 1 2");
        place("\nX", "13 1 2 1");
        place("skip\n\n % X\n  X", "13 13 4 3");
        place("skip\r\tX", "13 6 1 7");
        place("", "11 0 1 1");
        place("\n\n", "11 2 3 1");
        place("{Wait  % and \n ", "11 15 2 2");
        place("show \u00ff", "1 5 1 6");
        FlowReader reader = Check.after("X");
        CHECK.due("fault(4)", reader.fault(4), -1);
        CHECK.due("fault(-1)", reader.fault(-1), -1);
        reader.cut(0);
        Check.putAll(reader, "skip");
        reader.read();
        CHECK.due("no fault behind a better reading", Check.told(reader), "0 -1 -1 -1");
    }

    private static void place(String text, String want) {
        CHECK.due("fault of " + text, Check.told(Check.after(text)), want);
    }

    private static void at(String marked, int kind) {
        CHECK.dueFaultAtMark(marked, kind);
    }

    private static void fine(String text) {
        CHECK.dueNoFault(text);
    }
}
