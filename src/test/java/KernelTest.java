/** Promises 4, 7 and 8: what statements a reading makes, told by node and item. */
public final class KernelTest {
    private static final Check CHECK = new Check();

    public static void main(String[] args) {
        plainItems();
        same();
        records();
        lists();
        operations();
        applications();
        procedures();
        choices();
        cases();
        casesWithoutElse();
        threadsAndTries();
        itemsInARow();
        unified();
        locals();
        newVariablesOfExps();
        readingsOfOneObject();
        exampleOfTheReadme();
        CHECK.end();
    }

    private static void exampleOfTheReadme() {
        due("local X in X = 1 + 2 show X end", 5,
                "NUMBER x8 a1 > 1", "NUMBER x9 a2 > 2", "OPERATE x7 a0 [8 9]", "LOCAL a0 [8 9] > 4",
                "SHOW x7", "LOCAL a3 [7]");
    }

    private static void plainItems() {
        due("skip", 0, "SKIP");
        due("skip skip", 0, "SKIP > 1", "SKIP");
        due("show Wait", 0, "SHOW x0");
        due("raise Send", 0, "RAISE x6");
        due("show 1", 2, "NUMBER x7 a1 > 1", "SHOW x7", "LOCAL a0 [7]");
        due("raise a", 2, "ATOM x7 a10 > 1", "RAISE x7", "LOCAL a0 [7]");
        due("skip show 1 skip", 0, "SKIP > 3", "NUMBER x7 a1 > 2", "SHOW x7", "LOCAL a1 [7] > 4", "SKIP");
    }

    private static void same() {
        due("local X Y in X = Y Y = 1 Y = ~5 Y = nil Y = foo Y = foo end", 6,
                "SAME x7 a8 > 1", "NUMBER x8 a1 > 2", "NUMBER x8 a-5 > 3", "ATOM x8 a2 > 4",
                "ATOM x8 a10 > 5", "ATOM x8 a10", "LOCAL a0 [7 8]");
    }

    private static void records() {
        due("Wait = f(b:1 2:Send 1:_ aa:g(x) a:h())", 5,
                "RECORD x0 a10 [1 8 2 6 -16 10 -13 9 -12 7] > 1", "NUMBER x7 a1 > 2",
                "RECORD x9 a13 [1 11] > 3", "ATOM x11 a14 > 4", "ATOM x10 a16",
                "LOCAL a0 [7 8 9 10 11]");
        due("Wait = f(Send Send)", 0, "RECORD x0 a10 [1 6 2 6]");
        due("Wait = f( )", 0, "ATOM x0 a10");
        due("Wait = f(a_:Wait a:Wait aB:Wait a0:Wait ab:Wait 10:Wait 9:Wait)", 0,
                "RECORD x0 a10 [9 0 10 0 -13 0 -15 0 -14 0 -12 0 -16 0]");
        due("Wait = f(true:Send 1:Wait).true", 2,
                "RECORD x7 a10 [1 0 -1 6] > 1", "SELECT x0 a7", "LOCAL a0 [7]");
        due("Wait = f((Send))", 0, "RECORD x0 a10 [1 6]");
    }

    private static void lists() {
        due("Wait = []", 0, "ATOM x0 a2");
        due("Wait = [1 Send]", 4,
                "RECORD x0 a3 [1 7 2 8] > 1", "NUMBER x7 a1 > 2", "RECORD x8 a3 [1 6 2 9] > 3",
                "ATOM x9 a2", "LOCAL a0 [7 8 9]");
        due("Wait = 1|Send|_", 3,
                "RECORD x0 a3 [1 7 2 8] > 1", "NUMBER x7 a1 > 2", "RECORD x8 a3 [1 6 2 9]",
                "LOCAL a0 [7 8 9]");
        due("Wait = (Send|Wait)|Send", 2,
                "RECORD x0 a3 [1 7 2 6] > 1", "RECORD x7 a3 [1 6 2 0]", "LOCAL a0 [7]");
        due("Wait = Send|Wait", 0, "RECORD x0 a3 [1 6 2 0]");
        due("Wait = Send == Send|Wait", 2,
                "RECORD x0 a3 [1 7 2 0] > 1", "EQUAL x7 [6 6]", "LOCAL a0 [7]");
    }

    private static void operations() {
        due("Wait = 1 + 2 * Send", 4,
                "NUMBER x7 a1 > 1", "NUMBER x9 a2 > 2", "OPERATE x8 a2 [9 6] > 3",
                "OPERATE x0 a0 [7 8]", "LOCAL a0 [7 8 9]");
        due("Wait = Send - Wait - Send", 2,
                "OPERATE x7 a1 [6 0] > 1", "OPERATE x0 a1 [7 6]", "LOCAL a0 [7]");
        due("Wait = Send - (Wait - Send)", 2,
                "OPERATE x7 a1 [0 6] > 1", "OPERATE x0 a1 [6 7]", "LOCAL a0 [7]");
        due("Wait = Send div Wait mod Send", 2,
                "OPERATE x7 a3 [6 0] > 1", "OPERATE x0 a4 [7 6]", "LOCAL a0 [7]");
        due("Wait = Send + Wait mod Send", 2,
                "OPERATE x7 a4 [0 6] > 1", "OPERATE x0 a0 [6 7]", "LOCAL a0 [7]");
        due("Wait = Send - Wait div Send", 2,
                "OPERATE x7 a3 [0 6] > 1", "OPERATE x0 a1 [6 7]", "LOCAL a0 [7]");
        due("Wait = Send < Wait", 0, "OPERATE x0 a5 [6 0]");
        due("Wait = Send =< Wait", 0, "OPERATE x0 a6 [6 0]");
        due("Wait = Send == Wait", 0, "EQUAL x0 [6 0]");
        due("Wait = Send + Wait < Send * Wait", 3,
                "OPERATE x7 a0 [6 0] > 1", "OPERATE x8 a2 [6 0] > 2", "OPERATE x0 a5 [7 8]",
                "LOCAL a0 [7 8]");
        due("Wait = Send.a.3", 2, "SELECT x7 a6 b-11 > 1", "SELECT x0 a7 b3", "LOCAL a0 [7]");
        due("Wait = Send * Send.1", 2,
                "SELECT x7 a6 b1 > 1", "OPERATE x0 a2 [6 7]", "LOCAL a0 [7]");
        due("Wait = _ + _", 1, "OPERATE x0 a0 [7 8]", "LOCAL a0 [7 8]");
    }

    private static void applications() {
        due("{Send}", 0, "APPLY x6");
        due("Wait = {Send}", 0, "APPLY x6 [0]");
        due("{Send 1 Wait}", 2, "NUMBER x7 a1 > 1", "APPLY x6 [7 0]", "LOCAL a0 [7]");
        due("{{Send} a}", 3,
                "APPLY x6 [7] > 1", "ATOM x8 a10 > 2", "APPLY x7 [8]", "LOCAL a0 [7 8]");
        due("{Send} = {Wait}", 2, "APPLY x6 [7] > 1", "APPLY x0 [7]", "LOCAL a0 [7]");
        due("{Send}.1 = Wait", 2, "APPLY x6 [7] > 1", "SELECT x0 a7 b1", "LOCAL a0 [7]");
    }

    private static void procedures() {
        due("Wait = proc {A B} skip end", 1, "SKIP", "PROCEDURE x0 a0 [7 8]");
        due("Wait = proc {} skip end", 1, "SKIP", "PROCEDURE x0 a0");
        due("Wait = fun {A} A end", 1, "SAME x8 a7", "PROCEDURE x0 a0 [7 8]");
        due("Wait = fun {} do show 1 in 2|3 end", 7,
                "NUMBER x8 a1 > 1", "SHOW x8", "LOCAL a0 [8] > 6", "RECORD x7 a3 [1 9 2 10] > 4",
                "NUMBER x9 a2 > 5", "NUMBER x10 a3", "LOCAL a3 [9 10]", "PROCEDURE x0 a2 [7]");
        due("proc {A} skip end = fun {B} _ end", 3,
                "SKIP", "PROCEDURE x7 a0 [8] > 2", "PROCEDURE x7 [9 10]", "LOCAL a1 [7]");
    }

    private static void choices() {
        due("if Wait then skip end", 1, "SKIP", "IF x0 a0");
        due("if 1 then skip else skip skip end", 5,
                "NUMBER x7 a1 > 4", "SKIP", "SKIP > 3", "SKIP", "IF x7 a1 b2", "LOCAL a0 [7]");
        due("Wait = if Send then 1 else a end", 2, "NUMBER x0 a1", "ATOM x0 a10", "IF x6 a0 b1");
        due("if Wait then _ = Wait else skip end", 1, "SKIP", "IF x0 b0");
    }

    private static void cases() {
        due("case Wait of 5 then skip of a then skip else skip end", 4,
                "SKIP", "SKIP", "SKIP", "CASE x0 a1 b2 [1 10]", "CASE x0 a0 b3 [0 5]");
        due("case Wait of H|_ then show H else skip end", 2,
                "SHOW x7", "SKIP", "CASE x0 a0 b1 [2 3 1 7 2 -1]");
        due("case Wait of f(X _) then skip of f(2:Y 1:X) then X = Y else skip end skip", 4,
                "SKIP", "SAME x9 a8", "SKIP", "CASE x0 a1 b2 [2 10 1 9 2 8]",
                "CASE x0 a0 b3 [2 10 1 7 2 -1] > 5", "SKIP");
        due("Wait = case Send of ~1 then 1 else 2 end", 2,
                "NUMBER x0 a1", "NUMBER x0 a2", "CASE x6 a0 b1 [0 -1]");
        due("case Wait of f() then skip else skip end", 2, "SKIP", "SKIP", "CASE x0 a0 b1 [2 10]");
    }

    private static void casesWithoutElse() {
        due("case Wait of f(b:X 2:_ a:Y) then X = Y end", 4,
                "SAME x7 a8", "ATOM x9 a4 > 2", "RAISE x9", "LOCAL a1 [9]",
                "CASE x0 a0 b3 [2 10 2 -1 -13 8 -12 7]");
        due("Wait = case 1 of _|_ then 2 end", 6,
                "NUMBER x7 a1 > 5", "NUMBER x0 a2", "ATOM x8 a4 > 3", "RAISE x8", "LOCAL a2 [8]",
                "CASE x7 a1 b4 [2 3 1 -1 2 -1]", "LOCAL a0 [7]");
    }

    private static void threadsAndTries() {
        due("thread skip end", 1, "SKIP", "THREAD a0");
        due("Wait = thread 1 end", 1, "NUMBER x0 a1", "THREAD a0");
        due("try raise a catch E then show E end", 4,
                "ATOM x7 a10 > 1", "RAISE x7", "LOCAL a0 [7]", "SHOW x8", "TRY x8 a2 b3");
    }

    /** One of each behind another, and what each of them leaves for the next new variable. */
    private static void itemsInARow() {
        due("try skip catch E then skip end try skip catch E then skip end raise 1 show 2", 2,
                "SKIP", "SKIP", "TRY x7 a0 b1 > 5", "SKIP", "SKIP", "TRY x8 a3 b4 > 8",
                "NUMBER x9 a1 > 7", "RAISE x9", "LOCAL a6 [9] > 11", "NUMBER x10 a2 > 10",
                "SHOW x10", "LOCAL a9 [10]");
        due("skip thread skip end if Wait then skip end Wait = proc {A} skip end show 1", 0,
                "SKIP > 2", "SKIP", "THREAD a1 > 4", "SKIP", "IF x0 a3 > 6", "SKIP",
                "PROCEDURE x0 a5 [7] > 9", "NUMBER x8 a1 > 8", "SHOW x8", "LOCAL a7 [8]");
        due("skip case Wait of A|_ then skip else skip end local B in skip end {Wait 1}", 0,
                "SKIP > 3", "SKIP", "SKIP", "CASE x0 a1 b2 [2 3 1 7 2 -1] > 5", "SKIP",
                "LOCAL a4 [8] > 8", "NUMBER x9 a1 > 7", "APPLY x0 [9]", "LOCAL a6 [9]");
    }

    private static void unified() {
        due("Wait = Send", 0, "SAME x0 a6");
        due("1 = Wait", 0, "NUMBER x0 a1");
        due("1 = 2", 2, "NUMBER x7 a1 > 1", "NUMBER x7 a2", "LOCAL a0 [7]");
        due("(Wait) = (1)", 0, "NUMBER x0 a1");
        due("_ = Wait", -1);
        due("Wait = _", -1);
        due("_ = _", 0, "LOCAL [7]");
        due("_ = 1", 1, "NUMBER x7 a1", "LOCAL a0 [7]");
    }

    private static void locals() {
        due("local X in local X in X = 1 end X = 2 end", 3,
                "NUMBER x8 a1", "LOCAL a0 [8] > 2", "NUMBER x7 a2", "LOCAL a1 [7]");
        due("local Wait in show Wait end show Wait", 1, "SHOW x7", "LOCAL a0 [7] > 2", "SHOW x0");
        due("Wait = local X in do X = 1 in f(X 2) end", 4,
                "NUMBER x7 a1 > 3", "RECORD x0 a10 [1 7 2 8] > 2", "NUMBER x8 a2", "LOCAL a1 [8]",
                "LOCAL a0 [7]");
    }

    /** Only items and the exps of values stand in a LOCAL of their own. */
    private static void newVariablesOfExps() {
        due("show if 1 then 2 else 3 end", 5,
                "NUMBER x8 a1 > 3", "NUMBER x7 a2", "NUMBER x7 a3", "IF x8 a1 b2 > 4", "SHOW x7",
                "LOCAL a0 [7 8]");
        due("{Wait thread 1 + Send end}", 5,
                "NUMBER x8 a1 > 1", "OPERATE x7 a0 [8 6]", "LOCAL a0 [8]", "THREAD a2 > 4",
                "APPLY x0 [7]", "LOCAL a3 [7]");
    }

    /** What was read before leaves nothing behind, with or without a fault. */
    private static void readingsOfOneObject() {
        String[] texts = {
            "show [a b c d]", "show [d c b a]", "local X in X = f(d:1 a:2)", "show f(b:1 a:2 e:3)",
            "local Y X in Y = X end", "show X", "case Wait of f(Y d:X) then skip end", "_ = Send",
            "local Y in case Y of f(d:X b:_) then show X end end", "skip", "show [a 3a", "show Y",
        };
        FlowReader reader = new FlowReader();
        for (int i = 0; i < 3 * texts.length; i++) {
            String text = texts[(5 * i) % texts.length];
            reader.cut(0);
            Check.putAll(reader, text);
            reader.read();
            CHECK.due("one object's reading of " + text, Check.all(reader), Check.all(Check.after(text)));
        }
    }

    private static void due(String text, int first, String... lines) {
        CHECK.dueKernel(text, first, lines);
    }
}
