import java.util.ArrayList;
import java.util.Arrays;
import java.util.List;
import java.util.Random;

/**
 * Programs made as trees by a Random of a fixed seed. Each is written as a text, and the kernel that
 * is due is made of the tree by the document's words, never by way of the text.
 */
public final class MadeProgramsTest {
    private static final Check CHECK = new Check();
    private static final int PROGRAMS = 4000;
    private static final int DEEPEST = 6;

    public static void main(String[] args) {
        Random random = new Random(20261116);
        for (int i = 0; i < PROGRAMS; i++) {
            Maker maker = new Maker(random, 1 + random.nextInt(60));
            Node program = maker.block(maker.basis(), 0, false);
            Writer writer = new Writer(random);
            writer.block(program);
            if (writer.starts.size() <= 1500 && writer.text.length() <= 8192) {
                kernelIsDue(program, writer);
                faultsAreDue(writer, random);
            }
        }
        CHECK.end();
    }

    private static void kernelIsDue(Node program, Writer writer) {
        Statements due = new Statements(writer.atoms);
        int first = due.block(program, Check.NONE);
        String text = writer.text.toString();
        FlowReader reader = new FlowReader();
        Check.putAll(reader, text);
        CHECK.due("read of " + text, reader.read(), first);
        CHECK.due("fault of " + text, reader.fault(0), 0);
        CHECK.due("kernel of " + text, numbers(reader), due.numbers());
        CHECK.due("names of " + text, names(reader), due.names());
    }

    /** What begins like a program has no fault before the place where it is spoilt. */
    private static void faultsAreDue(Writer writer, Random random) {
        String text = writer.text.toString();
        int place = writer.starts.get(random.nextInt(writer.starts.size()));
        CHECK.dueFault(text.substring(0, place) + "\"" + text.substring(place), 1, place);
        String begun = text.substring(0, place);
        FlowReader reader = Check.after(begun);
        if (reader.fault(0) != 0) {
            CHECK.due("fault of " + begun, reader.fault(0) + " at " + reader.fault(1), "11 at " + place);
        }
        if (!writer.uses.isEmpty()) {
            int use = writer.uses.get(random.nextInt(writer.uses.size()));
            CHECK.dueFault(text.substring(0, use) + "Unbound " + text.substring(use), 13, use);
        }
    }

    private static String numbers(FlowReader reader) {
        StringBuilder all = new StringBuilder();
        for (int s = 0; s < reader.count(0); s++) {
            all.append("\n    ").append(s).append(':');
            for (int what = 0; what < 5; what++) {
                all.append(' ').append(reader.node(s, what));
            }
            for (int i = 0; i < reader.node(s, 5); i++) {
                all.append(i == 0 ? " | " : " ").append(reader.item(s, i));
            }
        }
        return all.toString();
    }

    private static String names(FlowReader reader) {
        StringBuilder all = new StringBuilder();
        for (int v = 0; v < reader.count(1); v++) {
            all.append(Check.name(reader, v)).append(' ');
        }
        for (int t = 0; t < reader.count(2); t++) {
            all.append(Check.atom(reader, t)).append(' ');
        }
        return all.toString();
    }

    /** Where a VARIABLE is bound; its number comes with the kernel. */
    private static final class Binding {
        private final String name;
        private int variable;

        Binding(String name, int variable) {
            this.name = name;
            this.variable = variable;
        }
    }

    /**
     * A kind as it is written, or what it is; a name (the text of an INTEGER or ATOM, a label, a
     * feature, an operation), its parts, and what it binds or, of a VARIABLE, means.
     */
    private record Node(String kind, String name, List<Node> parts, List<Binding> bound) {
        Node part(int i) {
            return parts.get(i);
        }

        Node last() {
            return parts.get(parts.size() - 1);
        }

        boolean is(String other) {
            return kind.equals(other);
        }
    }

    private static Node node(String kind, String name, Node... parts) {
        return new Node(kind, name, Arrays.asList(parts), List.of());
    }

    /** Makes trees. */
    private static final class Maker {
        private static final String[] VARIABLES = {"X", "Y", "Z", "X1", "X_", "Wait", "Send"};
        private static final String[] ATOMS = {
            "a", "b", "ab", "aB", "a_", "a1", "f", "nil", "true", "zero", "kind", "nomatch"
        };
        private static final String[] INTEGERS = {
            "0", "1", "~1", "42", "007", "2147483647", "~2147483648"
        };
        private static final String[] OPERATIONS = {"+", "-", "*", "div", "mod", "<", "=<", "=="};

        private final Random random;
        private int left;

        Maker(Random random, int left) {
            this.random = random;
            this.left = left;
        }

        List<Binding> basis() {
            List<Binding> basis = new ArrayList<>();
            for (String name : "Wait Needed ByNeed NewCell Exchange NewPort Send".split(" ")) {
                basis.add(new Binding(name, basis.size()));
            }
            return basis;
        }

        /** A body, or a value: then its last part is the exp. */
        Node block(List<Binding> around, int depth, boolean valued) {
            List<Node> parts = new ArrayList<>();
            int items = valued && random.nextInt(3) > 0 ? 0 : 1 + random.nextInt(3);
            for (int i = 0; i < items; i++) {
                parts.add(item(around, depth));
            }
            if (valued) {
                parts.add(exp(around, depth));
            }
            return new Node("block", valued ? "value" : "body", parts, List.of());
        }

        private Node item(List<Binding> around, int depth) {
            left--;
            int inner = depth + 1;
            switch (left < 0 || depth >= DEEPEST ? 0 : random.nextInt(11)) {
                case 0:
                    return node("skip", "");
                case 1:
                case 2:
                case 3:
                    return either(around, inner, false);
                case 4:
                    List<Binding> caught = List.of(new Binding(pick(VARIABLES), Check.NONE));
                    Node tried = block(around, inner, false);
                    return new Node("try", "", List.of(tried, block(both(around, caught), inner, false)), caught);
                case 5:
                    return node("raise", "", exp(around, inner));
                case 6:
                    return node("show", "", exp(around, inner));
                case 7:
                    return apply(around, inner);
                default:
                    return node("=", "", exp(around, inner), exp(around, inner));
            }
        }

        /** What is an item as well as an exp. */
        private Node either(List<Binding> around, int depth, boolean valued) {
            switch (random.nextInt(4)) {
                case 0:
                    List<Binding> bound = row(1);
                    return new Node("local", "", List.of(block(both(around, bound), depth, valued)), bound);
                case 1:
                    return node("thread", "", block(around, depth, valued));
                case 2:
                    Node condition = exp(around, depth);
                    Node then = block(around, depth, valued);
                    return valued || random.nextBoolean()
                            ? node("if", "else", condition, then, block(around, depth, valued))
                            : node("if", "", condition, then);
                default:
                    return cases(around, depth, valued);
            }
        }

        private Node cases(List<Binding> around, int depth, boolean valued) {
            List<Node> parts = new ArrayList<>();
            parts.add(exp(around, depth));
            for (int n = 1 + random.nextInt(3); n > 0; n--) {
                Node pattern = pattern();
                parts.add(node("branch", "", pattern, block(both(around, pattern.bound()), depth, valued)));
            }
            boolean otherwise = random.nextBoolean();
            if (otherwise) {
                parts.add(block(around, depth, valued));
            }
            return new Node("case", otherwise ? "else" : "", parts, List.of());
        }

        private Node pattern() {
            int kind = random.nextInt(5);
            if (kind < 2) {
                return node(kind == 0 ? "0" : "1", pick(kind == 0 ? INTEGERS : ATOMS));
            }
            int n = kind == 2 ? 2 : random.nextInt(5);
            List<String> features = features(n, kind == 3);
            List<Node> slots = new ArrayList<>();
            List<Binding> bound = new ArrayList<>();
            for (int i = 0; i < n; i++) {
                String name = random.nextInt(4) == 0 ? "_" : pick(VARIABLES);
                boolean taken = bound.stream().anyMatch(other -> other.name.equals(name));
                List<Binding> own = taken || name.equals("_")
                        ? List.of() : List.of(new Binding(name, Check.NONE));
                bound.addAll(own);
                slots.add(new Node("slot", features.get(i), List.of(), own));
            }
            return new Node(kind == 2 ? "pair" : "2", kind == 2 ? "|" : pick(ATOMS), slots, bound);
        }

        /** n different features, or none where the parts are told by their order. */
        private List<String> features(int n, boolean told) {
            List<String> features = new ArrayList<>();
            while (features.size() < n) {
                String one = random.nextBoolean() ? pick(ATOMS) : Integer.toString(1 + random.nextInt(32));
                if (!told || !features.contains(one)) {
                    features.add(told ? one : "");
                }
            }
            return features;
        }

        private Node apply(List<Binding> around, int depth) {
            List<Node> parts = exps(1 + random.nextInt(4), around, depth);
            return new Node("apply", "", parts, List.of());
        }

        private List<Node> exps(int n, List<Binding> around, int depth) {
            List<Node> parts = new ArrayList<>();
            for (int i = 0; i < n; i++) {
                parts.add(exp(around, depth));
            }
            return parts;
        }

        private Node exp(List<Binding> around, int depth) {
            left--;
            int inner = depth + 1;
            switch (left < 0 || depth >= DEEPEST ? random.nextInt(6) : random.nextInt(17)) {
                case 0:
                    return node("INTEGER", pick(INTEGERS));
                case 1:
                    return node("ATOM", pick(ATOMS));
                case 2:
                    return node("_", "");
                case 3:
                case 4:
                case 5:
                    return variable(around);
                case 6:
                case 7:
                    return record(around, inner);
                case 8:
                    return new Node("list", "", exps(random.nextInt(4), around, inner), List.of());
                case 9:
                    return node("|", "", exp(around, inner), exp(around, inner));
                case 10:
                case 11:
                    return node("op", pick(OPERATIONS), exp(around, inner), exp(around, inner));
                case 12:
                    return node(".", features(1, true).get(0), exp(around, inner));
                case 13:
                    return apply(around, inner);
                case 14:
                    boolean valued = random.nextBoolean();
                    List<Binding> bound = row(0);
                    Node block = block(both(around, bound), inner, valued);
                    return new Node(valued ? "fun" : "proc", "", List.of(block), bound);
                default:
                    return either(around, inner, true);
            }
        }

        private Node record(List<Binding> around, int depth) {
            int n = random.nextInt(5);
            List<Node> fields = new ArrayList<>();
            for (String feature : features(n, random.nextBoolean())) {
                fields.add(node("field", feature, exp(around, depth)));
            }
            return new Node("record", pick(ATOMS), fields, List.of());
        }

        /** A use of a binding that no later one hides. */
        private Node variable(List<Binding> around) {
            String name = around.get(random.nextInt(around.size())).name;
            int i = around.size() - 1;
            while (!around.get(i).name.equals(name)) {
                i--;
            }
            return new Node("VARIABLE", name, List.of(), List.of(around.get(i)));
        }

        private List<Binding> row(int least) {
            List<Binding> row = new ArrayList<>();
            for (String name : VARIABLES) {
                if (random.nextInt(4) == 0) {
                    row.add(random.nextInt(row.size() + 1), new Binding(name, Check.NONE));
                }
            }
            if (row.size() < least) {
                row.add(new Binding(pick(VARIABLES), Check.NONE));
            }
            return row;
        }

        private static List<Binding> both(List<Binding> around, List<Binding> more) {
            List<Binding> all = new ArrayList<>(around);
            all.addAll(more);
            return all;
        }

        private String pick(String[] names) {
            return names[random.nextInt(names.length)];
        }
    }

    /** Writes a tree, with no more brackets than it needs and a few for the look of it. */
    private static final class Writer {
        private static final String[] BLANKS = {" ", " ", " ", "\n", "\t", "\r\n", " % X = f(\n", "%\n%%\n"};

        private final Random random;
        private final StringBuilder text = new StringBuilder();
        private final List<Integer> starts = new ArrayList<>();
        /** Where a VARIABLE stands as an exp. */
        private final List<Integer> uses = new ArrayList<>();
        private final List<String> atoms = new ArrayList<>(Arrays.asList(
                "true", "false", "nil", "|", "nomatch", "failure", "zero", "kind", "arity", "feature"));

        Writer(Random random) {
            this.random = random;
        }

        void block(Node block) {
            boolean valued = block.name().equals("value");
            int items = block.parts().size() - (valued ? 1 : 0);
            if (valued && items > 0) {
                put("do");
            }
            for (int i = 0; i < items; i++) {
                item(block.part(i));
            }
            if (valued && items > 0) {
                put("in");
            }
            if (valued) {
                exp(block.last(), 0);
            }
        }

        private void item(Node item) {
            switch (item.kind()) {
                case "skip":
                    put("skip");
                    break;
                case "raise":
                case "show":
                    put(item.kind());
                    exp(item.part(0), 0);
                    break;
                case "=":
                    beginning(item.part(0));
                    put("=");
                    exp(item.part(1), 0);
                    break;
                case "try":
                    put("try");
                    block(item.part(0));
                    put("catch");
                    put(item.bound().get(0).name);
                    put("then");
                    block(item.part(1));
                    put("end");
                    break;
                default:
                    atomic(item);
                    break;
            }
        }

        /** An exp with which an item begins may not begin with some words, so it has brackets then. */
        private void beginning(Node exp) {
            Node first = exp;
            while (first.is("|") || first.is("op") || first.is(".")) {
                first = first.part(0);
            }
            if (first.is("local") || first.is("if") || first.is("case") || first.is("thread")) {
                bracketed(exp);
            } else {
                exp(exp, 0);
            }
        }

        private void bracketed(Node exp) {
            put("(");
            exp(exp, 0);
            put(")");
        }

        private static int level(Node exp) {
            if (exp.is("|")) {
                return 0;
            }
            if (!exp.is("op")) {
                return exp.is(".") ? 4 : 5;
            }
            return exp.name().equals("+") || exp.name().equals("-") ? 2
                    : exp.name().contains("=") || exp.name().equals("<") ? 1 : 3;
        }

        /** An exp where the grammar wants one of a level: 0 exp, compared, sum, product, part, 5 atomic. */
        private void exp(Node exp, int wanted) {
            int level = level(exp);
            if (level < wanted || random.nextInt(12) == 0) {
                bracketed(exp);
            } else if (level == 0) {
                exp(exp.part(0), 1);
                put("|");
                exp(exp.part(1), 0);
            } else if (level == 4) {
                exp(exp.part(0), 4);
                put(".");
                name(exp.name());
            } else if (level < 4) {
                exp(exp.part(0), level == 1 ? 2 : level);
                put(exp.name());
                exp(exp.part(1), level + 1);
            } else {
                atomic(exp);
            }
        }

        private void atomic(Node exp) {
            switch (exp.kind()) {
                case "VARIABLE":
                    put(exp.name());
                    uses.add(starts.get(starts.size() - 1));
                    break;
                case "_":
                    put("_");
                    break;
                case "INTEGER":
                case "ATOM":
                    name(exp.name());
                    break;
                case "record":
                    name(exp.name());
                    token("(");
                    exp.parts().forEach(this::field);
                    put(")");
                    break;
                case "list":
                    around("[", exp, "]");
                    break;
                case "apply":
                    around("{", exp, "}");
                    break;
                case "proc":
                case "fun":
                    put(exp.kind());
                    put("{");
                    exp.bound().forEach(one -> put(one.name));
                    put("}");
                    block(exp.part(0));
                    put("end");
                    break;
                default:
                    either(exp);
                    break;
            }
        }

        private void either(Node node) {
            put(node.kind());
            if (node.is("local")) {
                node.bound().forEach(one -> put(one.name));
                put("in");
            } else if (node.is("if")) {
                exp(node.part(0), 0);
                put("then");
                block(node.part(1));
            } else if (node.is("case")) {
                exp(node.part(0), 0);
                node.parts().stream().filter(part -> part.is("branch")).forEach(this::branch);
            }
            if (node.name().equals("else")) {
                put("else");
            }
            if (node.last().is("block") && (!node.is("if") || node.name().equals("else"))) {
                block(node.last());
            }
            put("end");
        }

        private void branch(Node branch) {
            Node pattern = branch.part(0);
            put("of");
            if (pattern.is("pair")) {
                slot(pattern.part(0));
                put("|");
                slot(pattern.part(1));
            } else {
                name(pattern.name());
            }
            if (pattern.is("2")) {
                put("(");
                pattern.parts().forEach(this::slot);
                put(")");
            }
            put("then");
            block(branch.part(1));
        }

        private void slot(Node slot) {
            feature(slot.name());
            put(slot.bound().isEmpty() ? "_" : slot.bound().get(0).name);
        }

        private void field(Node field) {
            feature(field.name());
            exp(field.part(0), 0);
        }

        private void feature(String feature) {
            if (!feature.isEmpty()) {
                name(feature);
                put(":");
            }
        }

        private void around(String open, Node node, String close) {
            put(open);
            node.parts().forEach(part -> exp(part, 0));
            put(close);
        }

        private void name(String name) {
            if (Check.isLetter(name.charAt(0)) && !atoms.contains(name)) {
                atoms.add(name);
            }
            put(name);
        }

        private void put(String token) {
            if (text.length() > 0) {
                text.append(BLANKS[random.nextInt(BLANKS.length)]);
            }
            token(token);
        }

        private void token(String token) {
            starts.add(text.length());
            text.append(token);
        }
    }

    /** Makes the statements of a tree. */
    private static final class Statements {
        private final List<String> atoms;
        private final List<String> variables = new ArrayList<>(Arrays.asList(
                "Wait", "Needed", "ByNeed", "NewCell", "Exchange", "NewPort", "Send"));
        /** Kind, x, a, b, behind, and then the items. */
        private final List<List<Integer>> statements = new ArrayList<>();

        Statements(List<String> atoms) {
            this.atoms = atoms;
        }

        String numbers() {
            StringBuilder all = new StringBuilder();
            for (int s = 0; s < statements.size(); s++) {
                all.append("\n    ").append(s).append(':');
                for (int i = 0; i < statements.get(s).size(); i++) {
                    all.append(i == 5 ? " | " : " ").append(statements.get(s).get(i));
                }
            }
            return all.toString();
        }

        String names() {
            StringBuilder all = new StringBuilder();
            variables.forEach(name -> all.append(name).append(' '));
            atoms.forEach(name -> all.append(name).append(' '));
            return all.toString();
        }

        /** A body, or a value into x: its first statement. */
        int block(Node block, int x) {
            List<Integer> row = new ArrayList<>();
            for (Node part : block.parts()) {
                List<Integer> fresh = new ArrayList<>();
                List<Integer> made = x != Check.NONE && part == block.last()
                        ? into(part, x, fresh) : item(part, fresh);
                row.addAll(fresh.isEmpty() ? made : List.of(make(2, -1, linked(made), -1, fresh)));
            }
            return linked(row);
        }

        private List<Integer> item(Node item, List<Integer> fresh) {
            List<Integer> row = new ArrayList<>();
            switch (item.kind()) {
                case "skip":
                    row.add(make(1, -1, -1, -1, List.of()));
                    break;
                case "raise":
                case "show":
                    int told = as(item.part(0), fresh, row);
                    row.add(make(item.is("raise") ? 16 : 17, told, -1, -1, List.of()));
                    break;
                case "=":
                    boolean turned = !item.part(0).is("VARIABLE") && item.part(1).is("VARIABLE");
                    int x = as(item.part(turned ? 1 : 0), fresh, row);
                    row.addAll(into(item.part(turned ? 0 : 1), x, fresh));
                    break;
                case "try":
                    int tried = block(item.part(0), -1);
                    int caught = bind(item.bound()).get(0);
                    row.add(make(15, caught, tried, block(item.part(1), -1), List.of()));
                    break;
                default:
                    row.addAll(into(item, -1, fresh));
                    break;
            }
            return row;
        }

        private List<Integer> into(Node exp, int x, List<Integer> fresh) {
            List<Integer> row = new ArrayList<>();
            switch (exp.kind()) {
                case "_":
                    break;
                case "VARIABLE":
                    row.add(make(3, x, exp.bound().get(0).variable, -1, List.of()));
                    break;
                case "INTEGER":
                    row.add(make(4, x, integer(exp.name()), -1, List.of()));
                    break;
                case "ATOM":
                    row.add(make(5, x, atoms.indexOf(exp.name()), -1, List.of()));
                    break;
                case "record":
                    record(exp, x, fresh, row);
                    break;
                case "|":
                    Node pair = node("record", "|", node("field", "1", exp.part(0)), node("field", "2", exp.part(1)));
                    return into(pair, x, fresh);
                case "list":
                    return into(pairs(exp, 0), x, fresh);
                case "op":
                    int left = as(exp.part(0), fresh, row);
                    List<Integer> operands = List.of(left, as(exp.part(1), fresh, row));
                    int operation = Arrays.asList("+", "-", "*", "div", "mod", "<", "=<").indexOf(exp.name());
                    row.add(make(operation < 0 ? 9 : 8, x, operation, -1, operands));
                    break;
                case ".":
                    row.add(make(10, x, as(exp.part(0), fresh, row), feature(exp.name()), List.of()));
                    break;
                case "apply":
                    List<Integer> given = new ArrayList<>();
                    exp.parts().forEach(part -> given.add(as(part, fresh, row)));
                    if (x != -1) {
                        given.add(x);
                    }
                    row.add(make(13, given.get(0), -1, -1, given.subList(1, given.size())));
                    break;
                default:
                    row.addAll(withBlocks(exp, x, fresh));
                    break;
            }
            return row;
        }

        private List<Integer> withBlocks(Node exp, int x, List<Integer> fresh) {
            List<Integer> row = new ArrayList<>();
            List<Integer> bound = exp.is("case") ? List.of() : bind(exp.bound());
            switch (exp.kind()) {
                case "local":
                    row.add(make(2, -1, block(exp.part(0), x), -1, bound));
                    break;
                case "thread":
                    row.add(make(14, -1, block(exp.part(0), x), -1, List.of()));
                    break;
                case "if":
                    int condition = as(exp.part(0), fresh, row);
                    int then = block(exp.part(1), x);
                    int otherwise = exp.name().equals("else") ? block(exp.part(2), x) : -1;
                    row.add(make(11, condition, then, otherwise, List.of()));
                    break;
                case "case":
                    int subject = as(exp.part(0), fresh, row);
                    row.add(branches(exp, 1, subject, x));
                    break;
                case "proc":
                    row.add(make(7, x, block(exp.part(0), -1), -1, bound));
                    break;
                case "fun":
                    bound.add(bear(""));
                    row.add(make(7, x, block(exp.part(0), bound.get(bound.size() - 1)), -1, bound));
                    break;
                default:
                    throw new IllegalStateException(exp.kind());
            }
            return row;
        }

        private int branches(Node cases, int i, int subject, int x) {
            if (i == cases.parts().size()) {
                int told = bear("");
                List<Integer> row = List.of(make(5, told, 4, -1, List.of()), make(16, told, -1, -1, List.of()));
                return make(2, -1, linked(row), -1, List.of(told));
            }
            if (!cases.part(i).is("branch")) {
                return block(cases.part(i), x);
            }
            Node pattern = cases.part(i).part(0);
            bind(pattern.bound());
            int then = block(cases.part(i).part(1), x);
            int other = branches(cases, i + 1, subject, x);
            List<Integer> items = new ArrayList<>();
            items.add(pattern.is("pair") ? 2 : Integer.parseInt(pattern.kind()));
            items.add(pattern.is("0") ? integer(pattern.name()) : atoms.indexOf(pattern.name()));
            List<Integer> slots = new ArrayList<>();
            pattern.parts().forEach(slot -> slots.add(slot.bound().isEmpty() ? -1 : slot.bound().get(0).variable));
            items.addAll(byFeatures(pattern.parts(), slots));
            return make(12, subject, then, other, items);
        }

        private void record(Node record, int x, List<Integer> fresh, List<Integer> row) {
            if (record.parts().isEmpty()) {
                row.add(make(5, x, atoms.indexOf(record.name()), -1, List.of()));
                return;
            }
            List<Integer> parts = new ArrayList<>();
            for (Node field : record.parts()) {
                parts.add(variable(field.part(0), fresh));
            }
            row.add(make(6, x, atoms.indexOf(record.name()), -1, byFeatures(record.parts(), parts)));
            for (int i = 0; i < parts.size(); i++) {
                Node part = record.part(i).part(0);
                if (!part.is("VARIABLE")) {
                    row.addAll(into(part, parts.get(i), fresh));
                }
            }
        }

        private static Node pairs(Node list, int i) {
            return i == list.parts().size() ? node("ATOM", "nil") : node("|", "", list.part(i), pairs(list, i + 1));
        }

        /** Feature and variable, and so on: integers first, then atoms by their bytes. */
        private List<Integer> byFeatures(List<Node> parts, List<Integer> values) {
            List<Integer> order = new ArrayList<>();
            for (int i = 0; i < parts.size(); i++) {
                order.add(i);
            }
            order.sort((i, j) -> key(parts, i).compareTo(key(parts, j)));
            List<Integer> items = new ArrayList<>();
            for (int i : order) {
                String name = parts.get(i).name();
                items.add(name.isEmpty() ? i + 1 : feature(name));
                items.add(values.get(i));
            }
            return items;
        }

        private static String key(List<Node> parts, int i) {
            String name = parts.get(i).name();
            boolean atom = !name.isEmpty() && Check.isLetter(name.charAt(0));
            return atom ? name : String.format("%03d", name.isEmpty() ? i + 1 : Integer.parseInt(name));
        }

        private int feature(String name) {
            return Check.isLetter(name.charAt(0)) ? -1 - atoms.indexOf(name) : Integer.parseInt(name);
        }

        private static int integer(String digits) {
            return Integer.parseInt(digits.replace('~', '-'));
        }

        private int as(Node exp, List<Integer> fresh, List<Integer> row) {
            int variable = variable(exp, fresh);
            if (!exp.is("VARIABLE")) {
                row.addAll(into(exp, variable, fresh));
            }
            return variable;
        }

        private int variable(Node exp, List<Integer> fresh) {
            if (exp.is("VARIABLE")) {
                return exp.bound().get(0).variable;
            }
            fresh.add(bear(""));
            return fresh.get(fresh.size() - 1);
        }

        private List<Integer> bind(List<Binding> bound) {
            List<Integer> row = new ArrayList<>();
            for (Binding one : bound) {
                one.variable = bear(one.name);
                row.add(one.variable);
            }
            return row;
        }

        private int bear(String name) {
            variables.add(name);
            return variables.size() - 1;
        }

        private int make(int kind, int x, int a, int b, List<Integer> items) {
            List<Integer> statement = new ArrayList<>(List.of(kind, x, a, b, -1));
            statement.addAll(items);
            statements.add(statement);
            return statements.size() - 1;
        }

        /** Puts each statement of a row behind the one before: the first one. */
        private int linked(List<Integer> row) {
            for (int i = 1; i < row.size(); i++) {
                statements.get(row.get(i - 1)).set(4, row.get(i));
            }
            return row.isEmpty() ? -1 : row.get(0);
        }
    }
}
