import java.util.ArrayList;
import java.util.List;
import java.util.TreeSet;
import java.util.regex.Matcher;
import java.util.regex.Pattern;

/**
 * Terms 6 to 8 on random codes: each text against a plain model of the document's words, made of what act, kind, block
 * and entry answer. BlockModelTest holds those answers to a model of their own.
 */
public final class TextModelTest {
    private static final String[] SIGNS = {"+", "-", "*", "/", "%", "&", "|", "^", "<<", ">>"};
    private static final int[] RANKS = {5, 5, 6, 6, 6, 3, 1, 2, 4, 4};
    private static final String[] CONDITIONS = {"==", "!=", "<", "<=", ">", ">="};
    private static final int[] NOT = {1, 0, 5, 4, 3, 2};

    private static final class Term {
        final String text;
        final int rank;
        /** A constant or a temporary, which is not put out. */
        final boolean stays;
        final boolean number;

        Term(String text, int rank, boolean stays, boolean number) {
            this.text = text;
            this.rank = rank;
            this.stays = stays;
            this.number = number;
        }

        String in(boolean brackets) {
            return brackets ? "(" + text + ")" : text;
        }
    }

    /** A statement: "line", "leave" (a line that leaves), "go", "if", "loop", "while", "block", "switch", "part". */
    private static final class Node {
        String sort;
        String text = "";
        int label;
        int condition;
        String left;
        String right;
        Node target;
        final List<Node> list = new ArrayList<>();
        final List<Node> other = new ArrayList<>();

        Node(String sort) {
            this.sort = sort;
        }

        boolean is(String one) {
            return sort.equals(one);
        }
    }

    private final SourceBack x;
    private final byte[] code;
    private final int acts;
    private final List<Term> pile = new ArrayList<>();
    private final Node[] loops = new Node[300];
    private final Node[] blocks = new Node[300];
    private Node dispatcher;
    private int numbers;
    private int arrays;

    private TextModelTest(SourceBack x) {
        this.x = x;
        acts = x.member(0, 0, 4);
        byte[] bytes = Kit.bytes(x, 0, 0);
        // The member is the file's first; those behind it have 6 bytes each beside their code.
        int behind = 0;
        for (int m = 1; m < x.file(0, 3); m++) {
            behind += 6 + x.member(0, m, 3);
        }
        int end = bytes.length - behind;
        code = java.util.Arrays.copyOfRange(bytes, end - x.member(0, 0, 3), end);
    }

    public static void main(String[] args) {
        int texts = 0;
        int without = 0;
        for (long seed = 2001; seed <= 4000; seed++) {
            SourceBack x = new SourceBack();
            if (Kit.take(x, RoundTripTest.file(seed)) < 0) {
                continue;
            }
            boolean shown = compare("seed " + seed, x);
            texts += shown ? 1 : 0;
            without += shown ? 0 : 1;
        }
        Due.same("enough texts", texts > 1000 && without < texts / 10, true);
        for (int n = 1; n <= 62; n++) {
            for (int shape = 0; shape < 6; shape++) {
                SourceBack x = new SourceBack();
                Kit kit = new Kit("F").own("m", "NNN", 2, 2, nest(shape, n));
                Due.same("take", Kit.take(x, kit.bytes()), 0);
                compare("shape " + shape + ", " + n + " deep", x);
            }
        }
        Due.end();
    }

    /** Whether there is a text; it must be the model's. */
    private static boolean compare(String what, SourceBack x) {
        String want = new TextModelTest(x).text();
        if (want != null && (want.length() > 20000 || Kit.judge(x, 0, want) != 0)) {
            want = null;
        }
        Due.same(what + ", text", Kit.text(x, 0, 0), want);
        return want != null;
    }

    /** Ifs, loops or switches in one another, and within the last some that polishing changes. */
    private static Kit.Code nest(int shape, int n) {
        Kit.Code code = Kit.code();
        for (int i = 0; i < n; i++) {
            code.at("h" + i).op(4, 1).op(1, i);
            if (shape == 0) {
                code.go(28, "x" + i).op(1, i).op(45).at("x" + i);
            } else if (shape == 1) {
                code.go(28, "g" + i);
            } else if (shape == 2) {
                code.go(28, "z");
            } else if (shape == 3) {
                code.op(20).choose("d" + i).at("d" + i);
            } else {
                code.go(28, "g" + i);
            }
        }
        code.op(4, 0).go(34, "a").op(6, 0, 1).op(4, 1).go(36, "b").op(6, 0, 2).go(42, "c").at("b").op(6, 0, 3).at("c").op(6, 1, 1).at("a");
        for (int i = n - 1; i >= 0 && shape > 3; i--) {
            code.op(4, 1).op(1, i).go(shape == 4 ? 28 : 31, "h" + (shape == 4 ? i : i / 2));
        }
        code.op(6, 0, 4).at("z").op(4, 0).op(45);
        for (int i = 0; i < n; i++) {
            code.at("g" + i).op(1, i).op(45);
        }
        return code;
    }

    private int op(int act) {
        return x.act(0, 0, act, 1);
    }

    private int u1(int act, int i) {
        return code[x.act(0, 0, act, 0) + i] & 255;
    }

    private int u2(int act, int i) {
        return u1(act, i) << 8 | u1(act, i + 1);
    }

    private String name(int entry) {
        StringBuilder all = new StringBuilder();
        for (int i = 0; i < x.entry(0, entry, 1); i++) {
            all.append((char) x.entry(0, entry, 4 + i));
        }
        return all.toString();
    }

    private String names(int entry) {
        return name((int) x.entry(0, entry, 1)) + "." + name((int) x.entry(0, entry, 2));
    }

    private Term pop() {
        return pile.remove(pile.size() - 1);
    }

    private void push(String text, int rank) {
        pile.add(new Term(text, rank, false, false));
    }

    private static void line(List<Node> out, String sort, String text) {
        Node node = new Node(sort);
        node.text = text;
        out.add(node);
    }

    /** Puts out the lowest n of the pile ahead of an act. */
    private void putOut(List<Node> out, int act, int n) {
        for (int i = 0; i < n; i++) {
            if (!pile.get(i).stays) {
                boolean array = x.kind(0, 0, act, -1 - i) == 2;
                String made = array ? "u" + arrays++ : "t" + numbers++;
                line(out, "line", made + " = " + pile.get(i).text);
                pile.set(i, new Term(made, 8, true, false));
            }
        }
    }

    private int first(int b) {
        int act = 0;
        while (x.act(0, 0, act, 0) != x.block(0, 0, b, 0)) {
            act++;
        }
        return act;
    }

    private int last(int b) {
        int act = first(b);
        while (act + 1 < acts && x.act(0, 0, act + 1, 4) == b && op(act) < 28 | op(act) == 44) {
            act++;
        }
        return act;
    }

    private void statements(int b, List<Node> out) {
        pile.clear();
        int first = first(b);
        if (x.act(0, 0, first, 3) > 0) {
            push(x.kind(0, 0, first, -1) == 2 ? "q0" : "s0", 8);
            putOut(out, first, 1);
        }
        for (int act = first; act <= last(b); act++) {
            one(act, op(act), out);
        }
    }

    private void one(int act, int op, List<Node> out) {
        int deep = pile.size();
        if (op >= 28 && op != 44 && op < 45) {
            return;
        }
        if (op == 44) {
            call(act, out);
        } else if (op >= 21 && op <= 23) {
            putOut(out, act, deep);
            Term y = pop();
            Term under = op == 21 ? y : pop();
            pile.add(y);
            pile.add(under);
            if (op == 23) {
                pile.add(y);
            }
        } else if (op == 5 || op == 6 || op == 8 || op == 20 || op == 26 || op > 44) {
            statement(act, op, out);
        } else if (op != 0) {
            term(act, op);
        }
    }

    private void term(int act, int op) {
        if (op == 1) {
            pile.add(new Term("" + (byte) u1(act, 1), 8, true, true));
        } else if (op == 2) {
            pile.add(new Term("" + x.entry(0, u2(act, 1), 1), 8, true, true));
        } else if (op == 3) {
            pile.add(new Term("none", 8, true, false));
        } else if (op == 4) {
            push((x.kind(0, 0, act, u1(act, 1)) == 2 ? "r" : "n") + u1(act, 1), 8);
        } else if (op == 7) {
            push(names(u2(act, 1)), 8);
        } else if (op <= 18) {
            Term right = pop();
            Term left = pop();
            int rank = RANKS[op - 9];
            push(left.in(left.rank < rank) + " " + SIGNS[op - 9] + " " + right.in(right.rank <= rank), rank);
        } else if (op == 19) {
            Term e = pop();
            push("-" + e.in(e.rank <= 7 || e.number), 7);
        } else if (op == 24) {
            push("make(" + pop().text + ")", 8);
        } else if (op == 25) {
            Term i = pop();
            Term a = pop();
            push(a.in(a.rank < 8) + "[" + i.text + "]", 8);
        } else {
            push("size(" + pop().text + ")", 8);
        }
    }

    private void statement(int act, int op, List<Node> out) {
        int takes = op == 26 ? 3 : op == 6 || op == 46 ? 0 : 1;
        putOut(out, act, pile.size() - takes);
        int top = pile.size() - 1;
        if (op == 5) {
            boolean array = x.kind(0, 0, act, -1 - top) == 2;
            line(out, "line", (array ? "r" : "n") + u1(act, 1) + " = " + pop().text);
        } else if (op == 6) {
            line(out, "line", "n" + u1(act, 1) + " += " + (byte) u1(act, 2));
        } else if (op == 8) {
            line(out, "line", names(u2(act, 1)) + " = " + pop().text);
        } else if (op == 20) {
            line(out, "line", "drop " + pop().text);
        } else if (op == 26) {
            Term e = pop();
            Term i = pop();
            Term a = pop();
            line(out, "line", a.in(a.rank < 8) + "[" + i.text + "] = " + e.text);
        } else {
            line(out, "leave", op == 46 ? "end" : (op == 45 ? "give " : "fail ") + pop().text);
        }
    }

    private void call(int act, List<Node> out) {
        int entry = u2(act, 1);
        int sign = (int) x.entry(0, entry, 3);
        int n = (int) x.entry(0, sign, 1);
        putOut(out, act, pile.size() - n);
        String terms = "";
        for (int i = 0; i < n; i++) {
            terms = pop().text + (i > 0 ? ", " : "") + terms;
        }
        String text = names(entry) + "(" + terms + ")";
        if (x.entry(0, sign, 2) == 2) {
            line(out, "line", text);
        } else {
            push(text, 8);
        }
    }

    private void place(int act, List<Node> out) {
        if (!pile.isEmpty()) {
            line(out, "line", (x.kind(0, 0, act, -1) == 2 ? "q0" : "s0") + " = " + pile.get(0).text);
        }
    }

    private void end(int b, List<Node> out) {
        int act = last(b);
        int op = op(act);
        if (op >= 28 && op <= 41) {
            putOut(out, act, pile.size() - (op < 34 ? 2 : 1));
            Node choice = new Node("if");
            choice.condition = op < 34 ? op - 28 : op < 40 ? op - 34 : op - 40;
            choice.right = op < 34 ? pop().text : op < 40 ? "0" : "none";
            choice.left = pop().text;
            place(act, out);
            out.add(choice);
            go(b, x.block(0, 0, b, 5), choice.list);
            go(b, x.block(0, 0, b, 6), choice.other);
        } else if (op == 43) {
            putOut(out, act, pile.size() - 1);
            Node choice = new Node("switch");
            choice.text = pop().text;
            place(act, out);
            out.add(choice);
            parts(b, act, choice);
        } else if (op < 45) {
            place(op == 42 ? act : act + 1, out);
            go(b, x.block(0, 0, b, 5), out);
        }
    }

    private void parts(int b, int act, Node choice) {
        int n = x.block(0, 0, b, 4);
        for (int w = 0; w < n; w++) {
            Node part = new Node("part");
            part.text = "default";
            int to = x.block(0, 0, x.block(0, 0, b, 5 + w), 0);
            for (int k = 0; w < n - 1 && k < u1(act, 3); k++) {
                if (u2(act, 8 + 6 * k) == to) {
                    int key = u2(act, 4 + 6 * k) << 16 | u2(act, 6 + 6 * k);
                    part.text = (part.text.equals("default") ? "case " : part.text + ", ") + key;
                }
            }
            choice.list.add(part);
        }
        for (int w = 0; w < n; w++) {
            go(b, x.block(0, 0, b, 5 + w), choice.list.get(w).list);
        }
    }

    private void go(int b, int to, List<Node> out) {
        Node node = new Node("go");
        if (dispatcher != null) {
            line(out, "line", "at = " + to);
            node.target = dispatcher;
        } else if (to <= b) {
            node.target = loops[to];
        } else if (x.block(0, 0, to, 3) == 1) {
            node.target = blocks[to];
        } else {
            tree(to, out);
            return;
        }
        out.add(node);
    }

    private void tree(int b, List<Node> out) {
        List<Node> into = out;
        if (x.block(0, 0, b, 2) == 1) {
            loops[b] = new Node("loop");
            loops[b].label = x.block(0, 0, b, 0);
            into.add(loops[b]);
            into = loops[b].list;
        }
        List<Integer> met = new ArrayList<>();
        List<List<Node>> places = new ArrayList<>();
        for (int y = x.member(0, 0, 6) - 1; y > b; y--) {
            if (x.block(0, 0, y, 3) == 1 && x.block(0, 0, y, 1) == b) {
                blocks[y] = new Node("block");
                blocks[y].label = x.block(0, 0, y, 0);
                into.add(blocks[y]);
                met.add(y);
                places.add(into);
                into = blocks[y].list;
            }
        }
        statements(b, into);
        end(b, into);
        for (int i = met.size() - 1; i >= 0; i--) {
            tree(met.get(i), places.get(i));
        }
    }

    private void knot(List<Node> out) {
        dispatcher = new Node("loop");
        Node choice = new Node("switch");
        choice.text = "at";
        dispatcher.list.add(choice);
        for (int b = 0; b < x.member(0, 0, 6); b++) {
            Node part = new Node("part");
            part.text = "case " + b;
            choice.list.add(part);
            statements(b, part.list);
            end(b, part.list);
        }
        Node part = new Node("part");
        part.text = "default";
        choice.list.add(part);
        out.add(dispatcher);
        StringBuilder body = new StringBuilder();
        print(out, 0, body);
        List<Node> set = new ArrayList<>();
        for (char family : "nr".toCharArray()) {
            for (String variable : words(body.toString(), family + "\\d+")) {
                if (!parameter(variable)) {
                    line(set, "line", variable + " = " + (family == 'n' ? "0" : "none"));
                }
            }
            String place = family == 'n' ? "s0" : "q0";
            if (!words(body.toString(), place).isEmpty()) {
                line(set, "line", place + " = " + (family == 'n' ? "0" : "none"));
            }
        }
        line(set, "line", "at = 0");
        out.addAll(0, set);
    }

    private boolean parameter(String variable) {
        int local = Integer.parseInt(variable.substring(1));
        int sign = (int) x.entry(0, x.member(0, 0, 0), 3);
        return local < x.entry(0, sign, 1) && (x.entry(0, sign, 4 + local) == 1) == variable.startsWith("r");
    }

    private static int deep(List<Node> list) {
        int most = 0;
        for (Node s : list) {
            int within = Math.max(deep(s.list), deep(s.other));
            most = Math.max(most, within + (s.is("part") || s.is("line") || s.is("leave") || s.is("go") ? 0 : 1));
        }
        return most;
    }

    /** What is asked of each statement, from inside out: C and D, or A, B and E. */
    private static void polish(List<Node> list, boolean clean) {
        for (int i = 0; i < list.size(); i++) {
            Node s = list.get(i);
            polish(s.list, clean);
            polish(s.other, clean);
            if (clean && (s.is("block") || s.is("loop") || s.is("while"))) {
                strip(s.list, s);
            }
            if (clean && s.is("block") && goers(s.list, s) == 0) {
                list.remove(i);
                list.addAll(i, s.list);
                i += s.list.size() - 1;
            } else if (!clean && s.is("if")) {
                i += turn(list, i, s);
            } else if (!clean && s.is("block")) {
                findWhile(s);
            }
        }
    }

    private static void strip(List<Node> list, Node target) {
        if (list.isEmpty()) {
            return;
        }
        Node s = list.get(list.size() - 1);
        if (s.is("go") && s.target == target) {
            list.remove(list.size() - 1);
        } else if (s.is("if") || s.is("block")) {
            strip(s.list, target);
            strip(s.other, target);
        } else if (s.is("switch")) {
            for (Node part : s.list) {
                strip(part.list, target);
            }
        }
    }

    private static int goers(List<Node> list, Node target) {
        int n = 0;
        for (Node s : list) {
            n += (s.target == target ? 1 : 0) + goers(s.list, target) + goers(s.other, target);
        }
        return n;
    }

    private static void swap(Node s) {
        List<Node> first = new ArrayList<>(s.list);
        s.list.clear();
        s.list.addAll(s.other);
        s.other.clear();
        s.other.addAll(first);
        s.condition = NOT[s.condition];
    }

    /** How many statements came behind the if. */
    private static int turn(List<Node> list, int i, Node s) {
        if (s.other.isEmpty()) {
            return 0;
        }
        if (s.list.isEmpty()) {
            swap(s);
            return 0;
        }
        if (!leaves(s.list)) {
            if (!leaves(s.other)) {
                return 0;
            }
            swap(s);
        }
        int n = s.other.size();
        list.addAll(i + 1, s.other);
        s.other.clear();
        return n;
    }

    private static void findWhile(Node s) {
        if (s.list.size() != 1 || !s.list.get(0).is("loop") || s.list.get(0).list.isEmpty()) {
            return;
        }
        Node loop = s.list.get(0);
        Node first = loop.list.get(0);
        if (first.is("if") && first.other.isEmpty() && first.list.size() == 1 && first.list.get(0).target == s) {
            loop.sort = "while";
            loop.condition = NOT[first.condition];
            loop.left = first.left;
            loop.right = first.right;
            loop.list.remove(0);
        }
    }

    private static boolean leaves(List<Node> list) {
        if (list.isEmpty()) {
            return false;
        }
        Node s = list.get(list.size() - 1);
        switch (s.sort) {
            case "leave": return true;
            case "go": return true;
            case "loop": return true;
            case "if": return leaves(s.list) && leaves(s.other);
            case "block": return goers(s.list, s) == 0 && leaves(s.list);
            case "switch": return s.list.stream().allMatch(part -> leaves(part.list));
            default: return false;
        }
    }

    private static void print(List<Node> list, int depth, StringBuilder out) {
        String ahead = "  ".repeat(depth);
        for (Node s : list) {
            String label = goers(s.list, s) == 0 ? "" : "l" + s.label + ": ";
            String condition = s.left + " " + CONDITIONS[s.condition] + " " + s.right;
            String opening = s.is("if") ? "if (" + condition + ")" : s.is("loop") ? label + "loop" : s.is("block") ? "b" + s.label + ":"
                : s.is("while") ? label + "while (" + condition + ")" : s.is("switch") ? "switch (" + s.text + ")" : s.text + ":";
            if (s.is("go")) {
                out.append(ahead).append(s.target.is("block") ? "break b" : "next l").append(s.target.label).append(";\n");
            } else if (s.is("line") || s.is("leave")) {
                out.append(ahead).append(s.text).append(";\n");
            } else {
                out.append(ahead).append(opening).append(" {\n");
                print(s.list, depth + 1, out);
                if (!s.other.isEmpty()) {
                    out.append(ahead).append("} else {\n");
                    print(s.other, depth + 1, out);
                }
                out.append(ahead).append("}\n");
            }
        }
    }

    /** Words of a text, by their numbers; fields and members have none that look like variables. */
    private static TreeSet<String> words(String text, String form) {
        TreeSet<String> all = new TreeSet<>((a, b) -> a.length() != b.length() ? a.length() - b.length() : a.compareTo(b));
        Matcher matcher = Pattern.compile("\\b" + form + "\\b").matcher(text);
        while (matcher.find()) {
            all.add(matcher.group());
        }
        return all;
    }

    private String declared(String kind, String body, String... families) {
        List<String> all = new ArrayList<>();
        for (String family : families) {
            for (String variable : words(body, family)) {
                if (!variable.matches("[nr]\\d+") || !parameter(variable)) {
                    all.add(variable);
                }
            }
        }
        return all.isEmpty() ? "" : "  " + kind + " " + String.join(", ", all) + ";\n";
    }

    private String text() {
        List<Node> list = new ArrayList<>();
        if (x.member(0, 0, 7) == 1) {
            knot(list);
        } else {
            tree(0, list);
        }
        if (dispatcher == null && deep(list) > 60) {
            return null;
        }
        polish(list, true);
        polish(list, false);
        polish(list, true);
        StringBuilder body = new StringBuilder();
        print(list, 1, body);
        int entry = x.member(0, 0, 0);
        int sign = (int) x.entry(0, entry, 3);
        String[] results = {"number", "array", "void"};
        List<String> parameters = new ArrayList<>();
        for (int i = 0; i < x.entry(0, sign, 1); i++) {
            parameters.add(x.entry(0, sign, 4 + i) == 1 ? "array r" + i : "number n" + i);
        }
        return results[(int) x.entry(0, sign, 2)] + " " + name((int) x.entry(0, entry, 2)) + "(" + String.join(", ", parameters)
            + ") {\n" + declared("number", body.toString(), "n\\d+", "t\\d+", "s0", "at")
            + declared("array", body.toString(), "r\\d+", "u\\d+", "q0") + body + "}\n";
    }
}
