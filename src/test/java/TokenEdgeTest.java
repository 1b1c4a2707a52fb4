/**
 * The edges of the text, of tokens and of their faults, sentence by sentence of the document's
 * terms: the last case that is still allowed, and the first that is not.
 */
public final class TokenEdgeTest {
    private static final Check CHECK = new Check();
    private static final String SIGNS = "(){}[]:=<+-*.|";
    private static final String[] WORDS = (
            "skip local in end if then else case of do proc fun thread try catch raise show div mod").split(" ");
    private static final String LONGEST = "abcdefghijklmnopqrstuv_9";

    public static void main(String[] args) {
        bytesOfTheText();
        lengthOfTheText();
        blanks();
        remarks();
        bytesThatBeginATokenOrNone();
        partsOfNames();
        tokensAreAsLongAsCanBe();
        signs();
        integers();
        words();
        anyWithANamePartBehindIt();
        minusWithoutDigits();
        namesThatAreTooLong();
        integersThatAreTooLarge();
        digitsWithALetterBehindThem();
        lesserNumberFirst();
        tokensThatAreTooMany();
        namesThatAreTooMany();
        whatCountsAsAName();
        faultOfSyntaxAtATokenBefore();
        faultOfTheTokenAtTheSame();
        CHECK.end();
    }

    /** "THE TEXT is bytes 1 .. 255" */
    private static void bytesOfTheText() {
        for (int b = 1; b <= 255; b++) {
            FlowReader reader = new FlowReader();
            due("put of byte " + b, reader.put('%' | (long) b << 8), 2);
            due("put of eight times byte " + b, reader.put(0x0101010101010101L * b), 10);
        }
        FlowReader reader = new FlowReader();
        due("put of byte 0", reader.put(0), 0);
        due("put of byte 0 behind another", reader.put(0x3700L | 'a'), 2);
        due("put of byte 0 before another", reader.put(0x3700L), 2);
    }

    /** "at most 8,192, in a row" */
    private static void lengthOfTheText() {
        FlowReader reader = new FlowReader();
        Check.putAll(reader, Check.many(" ", 8187) + "skip");
        due("bytes", reader.count(3), 8191);
        due("the first byte too many, behind one that is not", reader.put(0x2020), FlowReader.FULL);
        due("the last byte", reader.put('s'), 8192);
        reader.read();
        due("a token up to the last byte is read", Check.told(reader), "11 8192 1 8193");
        due("the first byte too many", reader.put(' '), FlowReader.FULL);
        due("bytes", reader.count(3), 8192);
        due("one byte less", reader.cut(8191), 8191);
        due("read", reader.read(), 0);
        due("room for one again", reader.put(' '), 8192);
        due("read of 8,192 bytes", reader.read() + " " + reader.count(0), "0 1");
    }

    /** "BLANKS are 9, 10, 13, 32" */
    private static void blanks() {
        for (int b = 1; b <= 255; b++) {
            boolean blank = b == 9 || b == 10 || b == 13 || b == 32;
            FlowReader reader = Check.after("skip" + (char) b + "skip");
            due("byte " + b + " is a blank", reader.count(0) == 2, blank);
            FlowReader twice = Check.after((char) b + "" + (char) b + "skip" + (char) b);
            due("byte " + b + " is a blank at both ends", twice.count(0) == 1, blank);
        }
    }

    /** "a remark goes from % to the next byte 10 or the end" */
    private static void remarks() {
        for (int b = 1; b <= 255; b++) {
            FlowReader reader = Check.after("skip % " + (char) b + "skip");
            due("byte " + b + " ends a remark", reader.count(0) == 2, b == 10);
        }
        counts("%\nskip", 1);
        counts("skip%", 1);
        counts("skip%\n", 1);
        counts("skip%skip", 1);
        counts("skip%%\nskip", 2);
        counts("skip%\n%\nskip%", 2);
        counts("skip % ! 3a \u00ff _a\n skip", 2);
        at("%^", 11);
        at("% skip^", 11);
        at("%\n^", 11);
    }

    /** "where blanks and remarks are over a token begins", "1 a byte that begins no token" */
    private static void bytesThatBeginATokenOrNone() {
        for (int b = 1; b <= 255; b++) {
            String text = "show " + (char) b;
            FlowReader reader = Check.after(text);
            due("the fault of byte " + b, reader.fault(0), faultOfFirst(b));
            due("its place", reader.fault(1), placeOfFirst(b));
        }
    }

    private static int faultOfFirst(int b) {
        if (b >= 'a' && b <= 'z' || Check.isDigit(b) || b == '_') {
            return 0;
        }
        if (b >= 'A' && b <= 'Z') {
            return 13;
        }
        boolean known = SIGNS.indexOf(b) >= 0 || b == 9 || b == 10 || b == 13 || b == 32 || b == '%';
        return known ? 11 : 1;
    }

    private static int placeOfFirst(int b) {
        if (faultOfFirst(b) == 0) {
            return -1;
        }
        boolean goesOn = "([{".indexOf(b) >= 0 || b == 9 || b == 10 || b == 13 || b == 32 || b == '%';
        return goesOn ? 6 : 5;
    }

    /** "an ATOM (a .. z, then letters, digits and _), a VARIABLE (A .. Z, then likewise)" */
    private static void partsOfNames() {
        for (int b = 1; b <= 255; b++) {
            String byteOf = String.valueOf((char) b);
            FlowReader atom = Check.after("show a" + byteOf + " ");
            due("an atom with byte " + b, Check.atom(atom, 10).equals("a" + byteOf), Check.isNamePart(b));
            FlowReader name = Check.after("local A" + byteOf + " in skip end");
            due("a variable with byte " + b, Check.name(name, 7).equals("A" + byteOf), Check.isNamePart(b));
        }
        for (char c : new char[] {'a', 'z', 'A', 'Z'}) {
            boolean atom = c >= 'a';
            due("a name that begins with " + c, Check.after("show " + c).fault(0), atom ? 0 : 13);
        }
    }

    /** "a token begins, as long as can be" */
    private static void tokensAreAsLongAsCanBe() {
        at("skipskip^", 11);
        at("skip1^", 11);
        counts("skip skip", 2);
        kernel("show 12", "NUMBER x7 a12 > 1");
        kernel("show a1", "ATOM x7 a10 > 1");
        at("Wait==^=1", 11);
        at("Wait==1^", 11);
        kernel("Wait=Wait==1", "NUMBER x7 a1 > 1");
        kernel("Wait=1=<2", "NUMBER x7 a1 > 1");
        at("Wait==^<1", 11);
        at("Wait=<^=1", 11);
        kernel("Wait=~3", "NUMBER x0 a-3");
        kernel("_=_", "LOCAL [7]");
        kernel("[1~2]=Wait", "RECORD x0 a3 [1 7 2 8] > 1");
        kernel("[1 2]=Wait", "RECORD x0 a3 [1 7 2 8] > 1");
        kernel("[_~2]=Wait", "RECORD x0 a3 [1 7 2 8] > 1");
    }

    /** "a SIGN: ( ) { } [ ] : = == < =< + - * . |": each where it can stand. */
    private static void signs() {
        CHECK.dueNoFault("f(a:(1)b:[2]c:{Wait}d:1+2-3*4 e:Wait.a g:1==2 h:1<2 i:1=<2 j:1|2)=Wait");
        for (String two : new String[] {"<=", ">=", "=>", "->", "**", "::", "..", "||", "=+", "<<"}) {
            FlowReader reader = Check.after("show 1" + two + "2");
            due("1" + two + "2 is no exp", reader.fault(0) == 0, false);
        }
    }

    /** "an INTEGER (digits, or ~ and digits; -2147483648 .. 2147483647)" */
    private static void integers() {
        kernel("Wait = 2147483647", "NUMBER x0 a2147483647");
        kernel("Wait = ~2147483648", "NUMBER x0 a-2147483648");
        kernel("Wait = 0", "NUMBER x0 a0");
        kernel("Wait = ~0", "NUMBER x0 a0");
        kernel("Wait = 00000000000000000000000002147483647", "NUMBER x0 a2147483647");
        kernel("Wait = ~00000000000000000000000002147483648", "NUMBER x0 a-2147483648");
        kernel("Wait = ~1", "NUMBER x0");
        due("a of ~1", Check.after("Wait = ~1").node(0, 2), -1);
        at("Wait = ^-1", 11);
        at("Wait = ^+1", 11);
    }

    /** "WORDS, which are no atoms" */
    private static void words() {
        for (String word : WORDS) {
            at("show Wait.^" + word, 11);
            CHECK.dueNoFault("show Wait." + word + "s");
            CHECK.dueNoFault("show Wait." + word + "_");
            CHECK.dueNoFault("show Wait." + word.substring(0, word.length() - 1));
            at("case 1 of ^" + word + " then skip end", 11);
            String upper = Character.toUpperCase(word.charAt(0)) + word.substring(1);
            CHECK.dueNoFault("local " + upper + " in show " + upper + " end");
            at("local ^" + word + " in skip end", 11);
        }
        FlowReader reader = Check.after("if 1 div 2 mod 3 then thread skip end else "
                + "try raise _ catch E then show proc {} local X in skip end end end end "
                + "case 1 of 2 then _ = fun {} do skip in 1 end end");
        due("all words are read", reader.fault(0), 0);
        due("and make no atoms", reader.count(2), 10);
    }

    /** "1 .. (also _ with a letter, digit or _ behind it)" */
    private static void anyWithANamePartBehindIt() {
        for (int b = 1; b <= 255; b++) {
            FlowReader reader = Check.after("show _" + (char) b);
            boolean faulty = reader.fault(0) == 1 && reader.fault(1) == 5;
            due("_ with byte " + b + " behind it", faulty, Check.isNamePart(b));
        }
        CHECK.dueNoFault("show _");
        CHECK.dueNoFault("show _%a");
        CHECK.dueNoFault("show [_~1 _(a)_]");
    }

    /** "digits, or ~ and digits": ~ alone begins no token. */
    private static void minusWithoutDigits() {
        for (int b = 1; b <= 255; b++) {
            FlowReader reader = Check.after("show ~" + (char) b);
            boolean faulty = reader.fault(0) == 1 && reader.fault(1) == 5;
            due("~ with byte " + b + " behind it", faulty, !Check.isDigit(b));
        }
        at("show ^~", 1);
        at("show ^~~1", 1);
    }

    /** "2 an atom, word or variable of more than 24 bytes" */
    private static void namesThatAreTooLong() {
        String longest = "V" + LONGEST.substring(1);
        CHECK.dueEdge("show " + LONGEST, "show ^" + LONGEST + "w", 2);
        CHECK.dueEdge("show " + LONGEST + "(1)", "show ^" + LONGEST + "_(1)", 2);
        CHECK.dueEdge("show Wait." + LONGEST, "show Wait.^" + LONGEST + "0", 2);
        CHECK.dueEdge("local " + longest + " in skip end", "local ^" + longest + "w in skip end", 2);
        CHECK.dueEdge("local " + longest + " in show " + longest + " end",
                "local " + longest + " in show ^" + longest + "w end", 2);
        at("^" + Check.many("skip", 6) + "s", 2);
        at(Check.many("skip", 6) + "^", 11);
        at("show ^" + Check.many("a", 8000), 2);
        due("all 24 bytes are told", Check.atom(Check.after("show " + LONGEST), 10), LONGEST);
        due("of a variable too", Check.name(Check.after("local " + longest + " in skip end"), 7), longest);
        String other = LONGEST.substring(0, 23) + "8";
        due("the 24th byte makes two", Check.after("show " + LONGEST + "|" + other).count(2), 12);
    }

    /** "3 an integer that is too large" */
    private static void integersThatAreTooLarge() {
        CHECK.dueEdge("show 2147483647", "show ^2147483648", 3);
        CHECK.dueEdge("show ~2147483648", "show ^~2147483649", 3);
        at("show ^4294967296", 3);
        at("show ^4294967297", 3);
        at("show ^18446744073709551616", 3);
        at("show ^18446744073709551617", 3);
        at("show ^~18446744073709551617", 3);
        at("show ^10000000000", 3);
        at("show ^" + Check.many("9", 4000), 3);
        at("show ^~" + Check.many("9", 4000), 3);
        at("show Wait.^2147483648", 3);
    }

    /** "4 digits with a letter or _ behind them" */
    private static void digitsWithALetterBehindThem() {
        for (int b = 1; b <= 255; b++) {
            boolean due = Check.isLetter(b) || b == '_';
            for (String digits : new String[] {"1", "~1", "2147483647"}) {
                FlowReader reader = Check.after("show " + digits + (char) b);
                boolean faulty = reader.fault(0) == 4 && reader.fault(1) == 5;
                due("byte " + b + " behind " + digits, faulty, due);
            }
        }
        CHECK.dueEdge("show [1 a]", "show [^1a]", 4);
        CHECK.dueEdge("show [1 _]", "show [^1_]", 4);
        CHECK.dueNoFault("show [1%a\na]");
    }

    /** "of one token the lesser number comes first, but 4 before 3" */
    private static void lesserNumberFirst() {
        at("show ^2147483648a", 4);
        at("show ^~2147483649_", 4);
        String full = Check.many("skip ", 1500);
        at(full + "^!", 1);
        at(full + "^_a", 1);
        at(full + "^~", 1);
        at(full + "^" + LONGEST + "w", 2);
        at(full + "^2147483648", 3);
        at(full + "^3a", 4);
        at(full + "^2147483648a", 4);
        at(full + "^1", 5);
        at(atoms(383) + "show ^" + LONGEST + "w", 2);
        at(atoms(383) + "show ^" + LONGEST, 5);
    }

    /** "5 more than 1,500 tokens" */
    private static void tokensThatAreTooMany() {
        String most = Check.many("skip ", 1500);
        CHECK.dueEdge(most, most + "^skip", 5);
        counts(most, 1500);
        CHECK.dueEdge(most + "% skip", most + "% skip\n^skip", 5);
        for (String last : new String[] {"(", "]", "a", "Wait", "X", "_", "7", "end", "==", "|"}) {
            at(most + "^" + last, 5);
        }
        CHECK.dueEdge("show [" + Check.many("1 ", 1497) + "]", "show [" + Check.many("1 ", 1498) + "^]", 5);
        CHECK.dueEdge("show 1" + Check.many("+1", 749), "skip show 1" + Check.many("+1", 748) + "+^1", 5);
        at(Check.many("skip ", 1499) + "show^", 11);
        at(Check.many("skip ", 1498) + "show f^(", 5);
    }

    /** "a name with which there would be more than 400 different atoms and variables" */
    private static void namesThatAreTooMany() {
        CHECK.dueEdge(atoms(383), atoms(383) + "show ^z", 5);
        CHECK.dueEdge(atoms(382) + "local X in skip end", atoms(382) + "local X ^Y in skip end", 5);
        CHECK.dueEdge(atoms(382) + "show z", atoms(382) + "show z|^zz", 5);
        CHECK.dueEdge(variables(383), variables(383) + "local ^Z in skip end", 5);
        CHECK.dueEdge(variables(300) + atoms(83), variables(300) + atoms(83) + "show ^z", 5);
        FlowReader reader = Check.after(atoms(383));
        due("atoms of the fullest text", reader.count(2), 393);
        due("its last one", Check.atom(reader, 392), "a383");
        due("none behind it", reader.atomByte(393, 0), -1);
        FlowReader other = Check.after(variables(383));
        due("variables of the fullest text", other.count(1), 7 + 383);
        due("the last one's name", Check.name(other, 7 + 382), "V383");
    }

    /** "different ..(those of the basis and atoms 0 to 9 among them)" */
    private static void whatCountsAsAName() {
        String full = atoms(383);
        CHECK.dueNoFault(full + full);
        CHECK.dueNoFault(full + "show [true false nil nomatch failure zero kind arity feature]");
        CHECK.dueNoFault(full + "show [Wait Needed ByNeed NewCell Exchange NewPort Send]");
        CHECK.dueNoFault(full + "local Wait in skip end show a1|_|1|2|3");
        CHECK.dueNoFault(full + "if 1 div 2 mod 3 then thread skip end else skip end "
                + "try raise _ catch Wait then show proc {} local Send in skip end end end "
                + "case 1 of 2 then _ = fun {} do skip in 1 end end");
        CHECK.dueEdge(atoms(382) + "local X in local X in show X end end",
                atoms(382) + "local X in local X in show ^x end end", 5);
        FlowReader reader = Check.after(full);
        reader.put('z');
        reader.read();
        due("one name more", reader.fault(0), 5);
        reader.cut(0);
        Check.putAll(reader, "show [" + Check.numbered("b", 383) + "]");
        reader.read();
        due("each reading begins with none", reader.fault(0) + " " + Check.atom(reader, 392), "0 b383");
    }

    /** "a fault of syntax at a token before comes first" */
    private static void faultOfSyntaxAtATokenBefore() {
        at("show ^X !", 13);
        at("^end 3a", 11);
        at("show Wait.^33 2147483648", 17);
        at("local X ^X " + LONGEST + "w", 14);
        at(Check.many("skip ", 1499) + "^end skip", 11);
        at(Check.many("skip ", 1498) + "show ^X skip", 13);
        at(atoms(382) + "show ^X show z", 13);
        at("show f(a:1 ^a! ", 12);
        at("show f(^33:!", 17);
        at("show " + Check.many("(", 24) + "^(!", 15);
        at("local " + Check.numbered("V", 32) + " ^W !", 16);
    }

    /** "at the same token that of the token" */
    private static void faultOfTheTokenAtTheSame() {
        at("skip ^!", 1);
        at("Wait ^_a", 1);
        at("Wait ^" + LONGEST + "w", 2);
        at("Wait ^2147483648", 3);
        at("show Wait.^3a", 4);
        at("show ^V" + LONGEST, 2);
        at("local " + Check.numbered("V", 32) + " ^V" + LONGEST, 2);
        at("show f(^2147483648:1)", 3);
        at("show f(" + Check.many("1 ", 32) + "^3a", 4);
        at("{Wait " + Check.many("1 ", 32) + "^_a", 1);
        at(Check.many("skip ", 1500) + "^end", 5);
        at(Check.many("skip ", 1499) + "show ^X", 5);
        at(atoms(383) + "Wait ^z", 5);
    }

    /** A program with n atoms of its own. */
    private static String atoms(int n) {
        return "show [" + Check.numbered("a", n) + "] ";
    }

    /** A program with n variables of its own. */
    private static String variables(int n) {
        StringBuilder all = new StringBuilder();
        for (int i = 1; i <= n; i++) {
            all.append(i % 32 == 1 ? "local V" : "V").append(i).append(' ');
            if (i % 32 == 0 || i == n) {
                all.append("in skip end ");
            }
        }
        return all.toString();
    }

    private static void counts(String text, int statements) {
        due("statements of " + text, Check.after(text).count(0), statements);
    }

    /** The first statement that comes to be. */
    private static void kernel(String text, String want) {
        FlowReader reader = Check.after(text);
        due("fault of " + text, reader.fault(0), 0);
        due("statement 0 of " + text, Check.statement(reader, 0), want);
    }

    private static void at(String marked, int kind) {
        CHECK.dueFaultAtMark(marked, kind);
    }

    private static void due(String what, Object got, Object want) {
        CHECK.due(what, got, want);
    }
}
