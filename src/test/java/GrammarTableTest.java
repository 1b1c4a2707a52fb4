import java.util.ArrayList;
import java.util.HashMap;
import java.util.HashSet;
import java.util.LinkedHashSet;
import java.util.List;
import java.util.Map;
import java.util.Set;

/**
 * The document's grammar as a table of rules, and a recogniser that knows nothing but rules
 * (Earley's): which token is the first that cannot stand there is due from it, behind every
 * beginning below and for every token there is.
 */
public final class GrammarTableTest {
    private static final Check CHECK = new Check();

    /** As in the document; ATOM( is an ATOM with a bracket next to it, ! begins an item. */
    private static final String[] TABLE = {
        "program: body", "body: item | item body", "variables: VARIABLE | VARIABLE variables",
        "parameters: | VARIABLE parameters", "exps: | exp exps",
        "item: skip | local variables in body end | if exp then body end | if exp then body else body end",
        "item: case exp of pattern then body ofBodies elseBody end | thread body end",
        "item: try body catch VARIABLE then body end | raise exp | show exp | !exp = exp | { exp exps }",
        "ofBodies: | of pattern then body ofBodies", "elseBody: | else body",
        "ofValues: | of pattern then value ofValues", "elseValue: | else value",
        "!exp: !compared | !compared BAR exp", "exp: compared | compared BAR exp",
        "!compared: !sum | !sum == sum | !sum < sum | !sum =< sum",
        "compared: sum | sum == sum | sum < sum | sum =< sum",
        "!sum: !product | !sum + product | !sum - product", "sum: product | sum + product | sum - product",
        "!product: !part | !product * part | !product div part | !product mod part",
        "product: part | product * part | product div part | product mod part",
        "!part: !atomic | !part . feature", "part: atomic | part . feature",
        "feature: ATOM | ATOM( | INTEGER",
        "!atomic: INTEGER | ATOM | VARIABLE | _ | ATOM( ( fields ) | [ exps ] | ( exp ) | { exp exps }",
        "!atomic: proc { parameters } body end | fun { parameters } value end",
        "atomic: !atomic | local variables in value end | if exp then value else value end",
        "atomic: case exp of pattern then value ofValues elseValue end | thread value end",
        "value: exp | do body in exp", "fields: exps | featured",
        "featured: feature : exp | feature : exp featured",
        "pattern: INTEGER | ATOM | ATOM ( slots ) | ATOM( ( slots ) | slot BAR slot",
        "slot: VARIABLE | _", "slots: plainSlots | featuredSlots", "plainSlots: | slot plainSlots",
        "featuredSlots: feature : slot | feature : slot featuredSlots",
    };

    private static final String[] BEGINNINGS = {
        "", "skip", "show", "show INTEGER", "show ATOM", "show VARIABLE", "VARIABLE", "VARIABLE =",
        "VARIABLE = INTEGER", "{", "{ VARIABLE", "{ VARIABLE }", "{ VARIABLE } . ATOM", "( { VARIABLE } )",
        "local", "local VARIABLE", "local VARIABLE in", "local VARIABLE in skip", "if", "if VARIABLE",
        "if VARIABLE then", "if VARIABLE then skip", "if VARIABLE then skip else", "if VARIABLE then skip else skip",
        "case", "case VARIABLE", "case VARIABLE of", "case VARIABLE of ATOM", "case VARIABLE of INTEGER",
        "case VARIABLE of VARIABLE", "case VARIABLE of VARIABLE BAR", "case VARIABLE of VARIABLE BAR _",
        "case VARIABLE of ATOM( (", "case VARIABLE of ATOM (", "case VARIABLE of ATOM( ( VARIABLE",
        "case VARIABLE of ATOM( ( ATOM", "case VARIABLE of ATOM( ( ATOM : VARIABLE",
        "case VARIABLE of ATOM( ( INTEGER :", "case VARIABLE of ATOM( ( )", "case VARIABLE of INTEGER then",
        "case VARIABLE of INTEGER then skip", "case VARIABLE of INTEGER then skip of",
        "case VARIABLE of INTEGER then skip of INTEGER then skip", "case VARIABLE of INTEGER then skip else",
        "case VARIABLE of INTEGER then skip else skip", "thread", "thread skip", "thread VARIABLE", "try",
        "try skip", "try skip catch", "try skip catch VARIABLE", "try skip catch VARIABLE then",
        "try skip catch VARIABLE then skip", "show (", "show ( INTEGER", "show [", "show [ INTEGER",
        "show [ ATOM", "show ATOM( (", "show ATOM( ( INTEGER", "show ATOM( ( ATOM", "show ATOM( ( ATOM :",
        "show ATOM( ( ATOM : INTEGER", "show ATOM( ( ATOM : INTEGER ATOM", "show ATOM( ( VARIABLE",
        "show ATOM( ( INTEGER INTEGER", "show ATOM( ( )", "show proc", "show proc {", "show proc { VARIABLE",
        "show proc { VARIABLE }", "show proc { VARIABLE } skip", "show fun", "show fun { }",
        "show fun { } INTEGER", "show fun { } do", "show fun { } do skip", "show fun { } do skip in",
        "show fun { } do skip in INTEGER", "show local", "show local VARIABLE", "show local VARIABLE in",
        "show local VARIABLE in INTEGER", "show if", "show if VARIABLE then", "show if VARIABLE then INTEGER",
        "show if VARIABLE then INTEGER else", "show if VARIABLE then INTEGER else INTEGER", "show case VARIABLE",
        "show case VARIABLE of ATOM", "show case VARIABLE of INTEGER then",
        "show case VARIABLE of INTEGER then INTEGER", "show case VARIABLE of INTEGER then INTEGER else INTEGER",
        "show case VARIABLE of INTEGER then INTEGER of", "show thread", "show thread INTEGER", "show thread do",
        "show INTEGER +", "show INTEGER *", "show INTEGER ==", "show INTEGER == INTEGER",
        "show INTEGER < INTEGER + INTEGER", "show INTEGER BAR", "show INTEGER BAR INTEGER == INTEGER",
        "show VARIABLE .", "show VARIABLE . ATOM", "show VARIABLE . ATOM( (", "INTEGER + thread INTEGER end",
        "VARIABLE = if VARIABLE then INTEGER else INTEGER end", "if VARIABLE then skip end", "thread skip end",
    };

    private static final Map<String, List<String[]>> RULES = new HashMap<>();
    private static final Set<String> TOKENS = new LinkedHashSet<>();
    private static final Set<String> MAY_BE_EMPTY = new HashSet<>();

    /** How far a rule that began at token from has come. */
    private record State(String name, String[] rule, int dot, int from) {
        String next() {
            return dot < rule.length ? rule[dot] : null;
        }

        State step() {
            return new State(name, rule, dot + 1, from);
        }
    }

    public static void main(String[] args) {
        readTable();
        for (String beginning : BEGINNINGS) {
            List<String> tokens = new ArrayList<>();
            if (!beginning.isEmpty()) {
                tokens.addAll(List.of(beginning.split(" ")));
            }
            compare(tokens);
            for (String one : TOKENS) {
                for (String behind : new String[] {"", "INTEGER", "=", "end"}) {
                    List<String> longer = new ArrayList<>(tokens);
                    longer.add(one);
                    if (!behind.isEmpty()) {
                        longer.add(behind);
                    }
                    compare(longer);
                }
            }
        }
        CHECK.end();
    }

    private static void readTable() {
        for (String line : TABLE) {
            String name = line.substring(0, line.indexOf(':'));
            List<String[]> rules = RULES.computeIfAbsent(name, any -> new ArrayList<>());
            for (String rule : line.substring(name.length() + 1).split("\\|", -1)) {
                rules.add(rule.isBlank() ? new String[0] : rule.trim().split(" "));
                if (rule.isBlank()) {
                    MAY_BE_EMPTY.add(name);
                }
            }
        }
        // The only ones that are empty by what they are made of.
        MAY_BE_EMPTY.add("fields");
        MAY_BE_EMPTY.add("slots");
        for (List<String[]> rules : RULES.values()) {
            for (String[] rule : rules) {
                for (String part : rule) {
                    if (!RULES.containsKey(part) && !part.equals("ATOM(")) {
                        TOKENS.add(part);
                    }
                }
            }
        }
    }

    /** Faults of other kinds at a token before are no matter of the grammar's. */
    private static void compare(List<String> tokens) {
        StringBuilder text = new StringBuilder();
        int[] starts = new int[tokens.size() + 1];
        for (int i = 0; i < tokens.size(); i++) {
            starts[i] = text.length();
            text.append(spelt(tokens.get(i), i)).append(tokens.get(i).equals("ATOM(") ? "" : " ");
        }
        starts[tokens.size()] = text.length();
        FlowReader reader = Check.after(text.toString());
        int misplaced = misplaced(tokens);
        String want = misplaced < 0 ? "0 at -1" : "11 at " + starts[misplaced];
        boolean before = reader.fault(0) > 11 && (misplaced < 0 || reader.fault(1) < starts[misplaced]);
        if (!before) {
            CHECK.due("fault of " + text, reader.fault(0) + " at " + reader.fault(1), want);
        }
    }

    /** Names and integers differ, so that none is told or bound twice. */
    private static String spelt(String token, int i) {
        switch (token) {
            case "ATOM":
            case "ATOM(":
                return "a" + i;
            case "INTEGER":
                return String.valueOf(i + 1);
            case "VARIABLE":
                return new String[] {"Wait", "Needed", "ByNeed", "NewCell", "Exchange", "NewPort", "Send"}[i % 7];
            case "BAR":
                return "|";
            default:
                return token;
        }
    }

    /** The first token that cannot stand there, behind the last one for the end, or -1. */
    private static int misplaced(List<String> tokens) {
        List<Map<String, Set<State>>> waiting = new ArrayList<>();
        List<State> row = new ArrayList<>();
        row.add(new State("", new String[] {"program"}, 0, 0));
        boolean whole = false;
        for (int i = 0; i <= tokens.size(); i++) {
            waiting.add(new HashMap<>());
            whole = close(row, i, waiting);
            List<State> stepped = new ArrayList<>();
            for (State state : row) {
                if (i < tokens.size() && tokens.get(i).equals(state.next())) {
                    stepped.add(state.step());
                }
            }
            if (i < tokens.size() && stepped.isEmpty()) {
                return i;
            }
            row = i < tokens.size() ? stepped : row;
        }
        return whole ? -1 : tokens.size();
    }

    /** Adds all states that follow without a token: whether the whole program may end here. */
    private static boolean close(List<State> row, int place, List<Map<String, Set<State>>> waiting) {
        Set<State> seen = new HashSet<>(row);
        boolean whole = false;
        for (int i = 0; i < row.size(); i++) {
            State state = row.get(i);
            String next = state.next();
            List<State> more = new ArrayList<>();
            if (next == null) {
                whole |= state.name().isEmpty();
                for (State before : waiting.get(state.from()).getOrDefault(state.name(), Set.of())) {
                    more.add(before.step());
                }
            } else if (RULES.containsKey(next)) {
                waiting.get(place).computeIfAbsent(next, any -> new HashSet<>()).add(state);
                for (String[] rule : RULES.get(next)) {
                    more.add(new State(next, rule, 0, place));
                }
                if (MAY_BE_EMPTY.contains(next)) {
                    more.add(state.step());
                }
            }
            for (State one : more) {
                if (seen.add(one)) {
                    row.add(one);
                }
            }
        }
        return whole;
    }
}
