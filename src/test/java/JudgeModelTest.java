import java.util.ArrayList;
import java.util.Collections;
import java.util.HashMap;
import java.util.HashSet;
import java.util.LinkedHashMap;
import java.util.List;
import java.util.Map;
import java.util.Random;
import java.util.Set;
import java.util.TreeMap;
import java.util.function.IntUnaryOperator;
import java.util.function.LongToIntFunction;
import java.util.regex.Matcher;
import java.util.regex.Pattern;

/**
 * Terms 9 and 10 on texts that were spoilt at random: the judge, and the code that edit makes, against a plain model that
 * goes down the grammar. A pile above 60 and a code above 4000 are left out; JudgeEdgeTest has them.
 */
public final class JudgeModelTest {
    private static final Set<String> LANGUAGE = Set.of("number", "array", "void", "give", "end", "fail", "drop", "if", "else", "loop",
        "while", "switch", "case", "default", "break", "next", "none", "make", "size");
    private static final List<String> SIGNS = List.of("==", "!=", "<=", ">=", "+=", "<<", ">>", "(", ")", "{", "}", "[", "]", ",", ";",
        ":", ".", "=", "<", ">", "+", "-", "*", "/", "%", "&", "|", "^");
    private static final List<List<String>> RANKS = List.of(List.of("|"), List.of("^"), List.of("&"), List.of("<<", ">>"),
        List.of("+", "-"), List.of("*", "/", "%"));
    private static final List<String> CONDITIONS = List.of("==", "!=", "<", "<=", ">", ">=");

    /** What stops the reading. */
    private static final class Refused extends RuntimeException {
        private static final long serialVersionUID = 1;
        final int told;

        Refused(int error, int place) {
            told = error + 16 * place;
        }
    }

    /** What is known of a term: N, A or V, its first token, and whether it is none, or the constant 0, in brackets, too. */
    private static final class Term {
        final char kind;
        final int place;
        final boolean none;
        final boolean zero;

        Term(char kind, int place, boolean none, boolean zero) {
            this.kind = kind;
            this.place = place;
            this.none = none;
            this.zero = zero;
        }

        Term(char kind, int place) {
            this(kind, place, false, false);
        }
    }

    /** An act that is made: what it has, a jump's or switch's label, a switch's keys with their labels. */
    private static final class Act {
        final int op;
        final long has;
        final int more;
        final TreeMap<Long, Integer> keys = new TreeMap<>();

        Act(int op, long has, int more) {
            this.op = op;
            this.has = has;
            this.more = more;
        }

        int size() {
            return op == 43 ? 4 + 6 * keys.size() : op == 1 || op == 4 || op == 5 ? 2
                : op == 2 || op >= 6 && op <= 8 || op >= 28 && op <= 44 ? 3 : 1;
        }
    }

    /** The fields and members of the file, by owner and name, with the parameters' kinds. */
    private static final Map<String, Character> FIELDS = new HashMap<>();
    private static final Map<String, Character> MEMBERS = new HashMap<>();
    private static final Map<String, Integer> ENTRIES = new HashMap<>();

    private final String text;
    private String token;
    private int start;
    private int stop;
    private final Map<String, Character> variables = new LinkedHashMap<>();
    private char result;
    private int blocks;
    private int brackets;
    /** Labels around, and whether each is a loop's; where its break or next goes; those that a break goes to. */
    private final Map<String, Boolean> around = new HashMap<>();
    private final Map<String, Integer> goals = new HashMap<>();
    private final Set<String> broken = new HashSet<>();

    private final List<Act> acts = new ArrayList<>();
    /** The act that a label stands at. */
    private final List<Integer> labels = new ArrayList<>();
    private final List<Long> numbers = new ArrayList<>();

    private JudgeModelTest(String text) {
        this.text = text;
    }

    public static void main(String[] args) {
        FIELDS.put("F.f", 'N');
        FIELDS.put("F.g", 'A');
        FIELDS.put("G.x", 'N');
        MEMBERS.put("F.h:NA", 'N');
        MEMBERS.put("F.v:N", 'V');
        MEMBERS.put("F.w:A", 'A');
        MEMBERS.put("F.m:NNAA", 'N');
        MEMBERS.put("G.y:", 'V');
        Kit kit = new Kit("F");
        ENTRIES.put("F.f", kit.ownField("f", 'N'));
        ENTRIES.put("F.g", kit.ownField("g", 'A'));
        ENTRIES.put("G.x", kit.field("G", "x", 'N'));
        ENTRIES.put("F.h:NA", kit.member("F", "h", "NAN"));
        ENTRIES.put("F.v:N", kit.member("F", "v", "NV"));
        ENTRIES.put("F.w:A", kit.member("F", "w", "AA"));
        ENTRIES.put("G.y:", kit.member("G", "y", "V"));
        kit.own("m", "NNAAN", 4, 1, Kit.code().op(4, 0).op(45));
        ENTRIES.put("F.m:NNAA", kit.member("F", "m", "NNAAN"));
        int[] told = new int[16];
        int edited = 0;
        List<String> texts = texts();
        Random r = new Random(5);
        for (int i = 0; i < 40000; i++) {
            String text = texts.get(r.nextInt(texts.size()));
            for (int k = r.nextInt(3); k >= 0 && i % 10 > 0; k--) {
                text = r.nextInt(3) == 0 ? spoilt(text, r) : swapped(text, r);
            }
            SourceBack x = new SourceBack();
            Kit.take(x, kit.bytes());
            JudgeModelTest model = new JudgeModelTest(text);
            int due = model.told();
            told[due % 16]++;
            String what = "text " + i + " " + (text.length() > 300 ? "" : text);
            Due.same(what, Kit.judge(x, 0, text), due);
            if (due == 0 && text.startsWith("number m(") && Kit.edit(x, 0, 0, text) == 0) {
                model.compare(what, x);
                edited++;
            }
        }
        Due.same("many were edited", edited > 1000, true);
        boolean enough = told[0] > 1000;
        for (int error = 1; error <= 7; error++) {
            enough = enough && told[error] > 30;
        }
        Due.same("errors of all kinds", enough && told[10] > 10, true);
        Due.end();
    }

    private static List<String> texts() {
        List<String> all = new ArrayList<>();
        for (long seed = 1; seed <= 150; seed++) {
            SourceBack x = new SourceBack();
            if (Kit.take(x, RoundTripTest.file(seed)) == 0) {
                String text = Kit.text(x, 0, 0);
                if (text != null && text.length() < 1500) {
                    all.add(text);
                }
            }
        }
        all.add("void k() { G.y(); end; }");
        all.add("number k(number a, array b) {\n  number c;\n  c = a;\n  l: while (c != 0) { c += -1; if (b == none) { next l; } }\n  give c;\n}");
        all.add("array k(array b){array c;c=b;o:{loop{if(size(c)>F.f){break o;}c=F.w(c);}}give c;}");
        all.add("number k(number n){switch(n*2){case 1,-5:{give 1;}case 7:{fail n;}default:{l:loop{switch(n){default:{next l;}}}}}}");
        all.add("void k(number a, number b, array c, array d, number e, number f, array g, number h) { c[a] = b; drop -(-c[e]) + - 5; }");
        all.add("number k(number n, array r) { b: { c: { if (n < 1) { break b; } else { break c; } } r[n] = F.h(n, r); make(3)[0] = 1; } "
            + "(r)[1 - -1] = G.x; F.f = n << 2 >> 1 & 3 | 4 ^ 5; F.g = r; F.v(n + 1); if ((none) != none) { } give n / 2 % 3; }");
        return all;
    }

    private static final String[] PIECES = {"n0", "r2", "x", "F", ".", "f", "g", "h", "(", ")", "[", "]", "{", "}", ";", ",", ":", "=",
        "==", "!=", "<", "+", "-", "*", "+=", "5", "-5", "9223372036854775808", "2147483648", "none", "make", "size", "give", "end",
        "fail", "drop", "if", "else", "loop", "while", "switch", "case", "default", "break", "next", "number", "array", "void", "!",
        "\t", "l1", "b1", "a", "k", "F.f", "F.g", "F.v(1)", "G.y()", "F.w(none)", "abcdefghijabcdefghijabcdefghijk", " ", "\n", "0"};

    private static final String[] TERMS = {"n0", "n1", "r2", "r3", "n4", "r5", "0", "1", "5", "-5", "none", "F.f", "F.g", "F.none_", "G.x",
        "make(1)", "size(r2)", "size(n0)", "F.w(r2)", "F.w(n0)", "F.h(1, r2)", "F.v(1)", "G.y()", "(r2)", "(n0)", "(none)", "-n0", "- r2",
        "r2[0]", "n0[0]", "n0 + 1", "n0 * r2", "2147483648", "99999999999999999999", "-9223372036854775808", "x", "b1", "l1", "at"};

    /** A variable, number or label becomes another term: most of these texts keep to the grammar. */
    private static String swapped(String text, Random r) {
        Matcher matcher = Pattern.compile("\\b([a-z]\\d+|[a-z]|\\d+)\\b").matcher(text);
        List<int[]> places = new ArrayList<>();
        while (matcher.find()) {
            places.add(new int[] {matcher.start(), matcher.end()});
        }
        if (places.isEmpty()) {
            return text;
        }
        int[] place = places.get(r.nextInt(places.size()));
        int[] other = places.get(r.nextInt(places.size()));
        String by = r.nextBoolean() ? text.substring(other[0], other[1]) : TERMS[r.nextInt(TERMS.length)];
        return text.substring(0, place[0]) + by + text.substring(place[1]);
    }

    private static String spoilt(String text, Random r) {
        if (text.isEmpty()) {
            return text;
        }
        int at = r.nextInt(text.length());
        int end = Math.min(text.length(), at + 1 + r.nextInt(3));
        String piece = PIECES[r.nextInt(PIECES.length)];
        switch (r.nextInt(7)) {
            case 0: return text.substring(0, at);
            case 1: return text.substring(0, at) + text.substring(end);
            case 2: return text.substring(0, at) + piece + text.substring(at);
            case 3: return text.substring(0, at) + piece + text.substring(end);
            case 4: return text.substring(0, at) + text.substring(at, end) + text.substring(at);
            default:
                // One whole word or sign for another.
                int from = at;
                while (from > 0 && Character.isLetterOrDigit(text.charAt(from - 1)) && Character.isLetterOrDigit(text.charAt(from))) {
                    from--;
                }
                int to = from + 1;
                while (to < text.length() && Character.isLetterOrDigit(text.charAt(to)) && Character.isLetterOrDigit(text.charAt(from))) {
                    to++;
                }
                return text.substring(0, from) + piece + text.substring(to);
        }
    }

    private int told() {
        try {
            next();
            member();
            return 0;
        } catch (Refused refused) {
            return refused.told;
        }
    }

    private void make(int op, long has, int more) {
        acts.add(new Act(op, has, more));
    }

    private void makeNumber(long value) {
        boolean small = value >= -128 && value <= 127;
        if (!small && !numbers.contains(value)) {
            numbers.add(value);
        }
        make(small ? 1 : 2, small ? value : numbers.indexOf(value), 0);
    }

    private int label() {
        labels.add(-1);
        return labels.size() - 1;
    }

    private void stands(int label) {
        labels.set(label, acts.size());
    }

    private int local(String name) {
        return new ArrayList<>(variables.keySet()).indexOf(name);
    }

    /** Forgets all fields and members. */
    static void forget() {
        FIELDS.clear();
        MEMBERS.clear();
        ENTRIES.clear();
    }

    /** A field ("F.f:N") or member ("F.m(NA)V") with its entry, unless one that is found earlier is known. */
    static void know(String said, int entry) {
        int bracket = said.indexOf('(');
        String key = bracket < 0 ? said.substring(0, said.indexOf(':'))
            : said.substring(0, bracket) + ":" + said.substring(bracket + 1, said.length() - 2);
        (bracket < 0 ? FIELDS : MEMBERS).putIfAbsent(key, said.charAt(said.length() - 1));
        ENTRIES.putIfAbsent(key, entry);
    }

    /** A text without an error that has been read. */
    static JudgeModelTest read(String text) {
        JudgeModelTest model = new JudgeModelTest(text);
        Due.same("judge " + text, model.told(), 0);
        return model;
    }

    int locals() {
        return variables.size();
    }

    int pile() {
        int deep = 0;
        int most = 0;
        for (Act act : acts) {
            deep += grows(act);
            most = Math.max(most, deep);
        }
        return most;
    }

    /** The bytes of the code, with the entries that others tell for the file's entries and for numbers. */
    byte[] code(IntUnaryOperator entry, LongToIntFunction number) {
        int[] places = new int[acts.size() + 1];
        for (int i = 0; i < acts.size(); i++) {
            places[i + 1] = places[i] + acts.get(i).size();
        }
        Kit.Code code = Kit.code();
        for (Act act : acts) {
            boolean asks = act.op == 7 || act.op == 8 || act.op == 44;
            code.op(bytes(act, places, act.op == 2 ? number.applyAsInt(numbers.get((int) act.has))
                : asks ? entry.applyAsInt((int) act.has) : act.has));
        }
        return code.bytes();
    }

    /** The made member is what the edited file has: locals, pile, new entries, code. */
    private void compare(String what, SourceBack x) {
        int before = Collections.max(ENTRIES.values());
        byte[] want = code(k -> k, value -> before + 1 + numbers.indexOf(value));
        Due.same(what + ", locals", x.member(0, 0, 1), locals());
        Due.same(what + ", pile", x.member(0, 0, 2), pile());
        Due.same(what + ", bytes of code", x.member(0, 0, 3), want.length);
        Due.same(what + ", entries", x.file(0, 1), before + numbers.size());
        for (int i = 0; i < numbers.size(); i++) {
            Due.same(what + ", number " + i, x.entry(0, before + 1 + i, 1), numbers.get(i));
        }
        byte[] all = Kit.bytes(x, 0, 0);
        Due.same(what + ", code", java.util.Arrays.copyOfRange(all, all.length - want.length, all.length), want);
    }

    private int[] bytes(Act act, int[] places, long asked) {
        int[] bytes = new int[act.size()];
        bytes[0] = act.op;
        long has = act.op >= 28 && act.op <= 43 ? places[labels.get((int) act.has)] : asked;
        if (bytes.length > 2 && act.op != 6) {
            bytes[1] = (int) has >> 8;
            bytes[2] = (int) has;
        } else if (bytes.length > 1) {
            bytes[1] = (int) has;
        }
        if (act.op == 6) {
            bytes[2] = act.more;
        }
        if (act.op == 43) {
            bytes[3] = act.keys.size();
            int p = 4;
            for (Map.Entry<Long, Integer> key : act.keys.entrySet()) {
                for (int i = 0; i < 4; i++) {
                    bytes[p + i] = (int) (key.getKey() >> (24 - 8 * i)) & 255;
                }
                bytes[p + 4] = places[labels.get(key.getValue())] >> 8;
                bytes[p + 5] = places[labels.get(key.getValue())];
                p += 6;
            }
        }
        return bytes;
    }

    private static int grows(Act act) {
        int op = act.op;
        if (op == 44) {
            return act.more;
        }
        return op >= 1 && op <= 4 || op == 7 ? 1 : op == 26 ? -3 : op >= 28 && op <= 33 ? -2
            : op == 5 || op == 8 || op >= 9 && op <= 18 || op == 20 || op == 25 || op >= 34 && op <= 41 || op == 43 || op == 45 || op == 47
            ? -1 : 0;
    }

    private static boolean wordSign(char c) {
        return c >= 'a' && c <= 'z' || c >= 'A' && c <= 'Z' || c >= '0' && c <= '9' || c == '_';
    }

    private static boolean digit(char c) {
        return c >= '0' && c <= '9';
    }

    /** The next token, "" at the end, "?" for what is none. */
    private void next() {
        start = stop;
        while (start < text.length() && (text.charAt(start) == ' ' || text.charAt(start) == '\n')) {
            start++;
        }
        stop = start;
        if (start == text.length()) {
            token = "";
            return;
        }
        boolean digits = digit(text.charAt(start));
        while (stop < text.length() && (digits ? digit(text.charAt(stop)) : wordSign(text.charAt(stop)))) {
            stop++;
        }
        if (stop > start) {
            token = !digits && stop - start > 30 ? "?" : text.substring(start, stop);
            return;
        }
        token = "?";
        stop = start + 1;
        for (String sign : SIGNS) {
            if (text.startsWith(sign, start)) {
                token = sign;
                stop = start + sign.length();
                return;
            }
        }
    }

    private boolean is(String one) {
        return token.equals(one);
    }

    private boolean isDigits() {
        return !token.isEmpty() && digit(token.charAt(0));
    }

    private boolean isWord() {
        return !token.isEmpty() && wordSign(token.charAt(0)) && !isDigits() && !LANGUAGE.contains(token);
    }

    private boolean isMinusOfDigits() {
        return is("-") && stop < text.length() && digit(text.charAt(stop));
    }

    private void expect(String one) {
        if (!is(one)) {
            throw new Refused(1, start);
        }
        next();
    }

    private String word() {
        if (!isWord()) {
            throw new Refused(1, start);
        }
        String word = token;
        next();
        return word;
    }

    private void member() {
        if (!is("number") && !is("array") && !is("void")) {
            throw new Refused(1, start);
        }
        result = Character.toUpperCase(token.charAt(0));
        next();
        word();
        expect("(");
        for (int n = 0; !is(")") || n > 0; n++) {
            char kind = kind();
            if (n == 8) {
                throw new Refused(9, start);
            }
            next();
            declare(kind);
            if (!is(",")) {
                break;
            }
            next();
        }
        expect(")");
        expect("{");
        while (is("number") || is("array")) {
            char kind = kind();
            next();
            declare(kind);
            while (is(",")) {
                next();
                declare(kind);
            }
            expect(";");
        }
        boolean leaves = statements();
        if (!leaves && result != 'V') {
            throw new Refused(10, start);
        }
        if (!leaves) {
            make(46, 0, 0);
        }
        next();
        if (!is("")) {
            throw new Refused(1, start);
        }
    }

    private char kind() {
        if (!is("number") && !is("array")) {
            throw new Refused(1, start);
        }
        return Character.toUpperCase(token.charAt(0));
    }

    private void declare(char kind) {
        if (!isWord()) {
            throw new Refused(1, start);
        }
        if (variables.containsKey(token)) {
            throw new Refused(2, start);
        }
        if (variables.size() == 60) {
            throw new Refused(9, start);
        }
        variables.put(token, kind);
        next();
    }

    /** Up to the }, which is looked at; whether they leave. */
    private boolean statements() {
        boolean leaves = false;
        while (!is("}")) {
            leaves = statement();
        }
        return leaves;
    }

    private boolean list() {
        expect("{");
        boolean leaves = statements();
        next();
        return leaves;
    }

    private void deeper(int place) {
        if (blocks == 60) {
            throw new Refused(8, place);
        }
        blocks++;
    }

    private boolean statement() {
        int place = start;
        if (isWord()) {
            return named(place);
        }
        switch (token) {
            case "give":
                if (result == 'V') {
                    throw new Refused(5, place);
                }
                next();
                need(term(0), result);
                make(45, 0, 0);
                expect(";");
                return true;
            case "end":
                if (result != 'V') {
                    throw new Refused(5, place);
                }
                next();
                make(46, 0, 0);
                expect(";");
                return true;
            case "fail":
                next();
                need(term(0), 'N');
                make(47, 0, 0);
                expect(";");
                return true;
            case "drop":
                next();
                term(0);
                make(20, 0, 0);
                expect(";");
                return false;
            case "break":
            case "next":
                goes(is("next"));
                return true;
            case "if":
                deeper(place);
                next();
                return choose();
            case "loop":
            case "while":
                deeper(place);
                return loop(label());
            case "switch":
                deeper(place);
                return choice();
            default:
                if (!isDigits() && !isMinusOfDigits() && !is("none") && !is("make") && !is("size") && !is("(")) {
                    throw new Refused(1, place);
                }
                element(first(false));
                return false;
        }
    }

    private boolean choose() {
        int other = label();
        condition(other);
        boolean first = list();
        boolean both = false;
        if (!is("else")) {
            stands(other);
        } else {
            next();
            expect("{");
            int end = label();
            if (!is("}") && !first) {
                make(42, end, 0);
            }
            stands(other);
            both = statements() && first;
            next();
            stands(end);
        }
        blocks--;
        return both;
    }

    private void goes(boolean loop) {
        next();
        int place = start;
        if (!isWord()) {
            throw new Refused(1, place);
        }
        if (!around.containsKey(token) || around.get(token) != loop) {
            throw new Refused(3, place);
        }
        broken.add(token);
        make(42, goals.get(token), 0);
        next();
        expect(";");
    }

    private boolean loop(int begin) {
        boolean endless = is("loop");
        int end = label();
        stands(begin);
        next();
        if (!endless) {
            condition(end);
        }
        if (!list()) {
            make(42, begin, 0);
        }
        stands(end);
        blocks--;
        return endless;
    }

    private boolean choice() {
        next();
        expect("(");
        need(term(0), 'N');
        expect(")");
        expect("{");
        int other = label();
        int end = label();
        make(43, other, 0);
        TreeMap<Long, Integer> keys = acts.get(acts.size() - 1).keys;
        boolean leaves = true;
        while (!is("default")) {
            expect("case");
            int part = label();
            stands(part);
            key(keys, part);
            while (is(",")) {
                next();
                key(keys, part);
            }
            expect(":");
            boolean one = list();
            leaves = leaves && one;
            if (!one) {
                make(42, end, 0);
            }
        }
        next();
        expect(":");
        stands(other);
        leaves = list() && leaves;
        stands(end);
        expect("}");
        blocks--;
        return leaves;
    }

    private void key(TreeMap<Long, Integer> keys, int part) {
        int place = start;
        long key = number(-2147483648L, 2147483647);
        if (keys.put(key, part) != null) {
            throw new Refused(7, place);
        }
        if (keys.size() > 40) {
            throw new Refused(9, place);
        }
        next();
    }

    /** The number at the token, whose last token is looked at. */
    private long number(long least, long most) {
        int place = start;
        boolean below = isMinusOfDigits();
        if (below) {
            next();
        }
        if (!isDigits()) {
            throw new Refused(1, start);
        }
        java.math.BigInteger value = new java.math.BigInteger((below ? "-" : "") + token);
        if (value.compareTo(java.math.BigInteger.valueOf(least)) < 0 || value.compareTo(java.math.BigInteger.valueOf(most)) > 0) {
            throw new Refused(6, place);
        }
        return value.longValue();
    }

    /** To a label if it is not so. */
    private void condition(int other) {
        expect("(");
        Term left = term(0);
        String sign = token;
        if (!CONDITIONS.contains(sign)) {
            throw new Refused(1, start);
        }
        next();
        Term right = term(0);
        boolean same = sign.equals("==") || sign.equals("!=");
        if (left.kind == 'A' && !(same && right.none)) {
            throw new Refused(5, left.place);
        }
        if (left.kind == 'N' && right.kind != 'N') {
            throw new Refused(5, right.place);
        }
        int not = new int[] {1, 0, 5, 4, 3, 2}[CONDITIONS.indexOf(sign)];
        if (left.kind == 'A' || right.zero) {
            acts.remove(acts.size() - 1);
        }
        make((left.kind == 'A' ? 40 : right.zero ? 34 : 28) + not, other, 0);
        expect(")");
    }

    private static void need(Term term, char kind) {
        if (term.kind != kind) {
            throw new Refused(5, term.place);
        }
    }

    /** A statement that begins with a name. */
    private boolean named(int place) {
        String name = token;
        next();
        if (is(":")) {
            return labelled(name, place);
        }
        if (is(".")) {
            next();
            String other = word();
            if (is("(")) {
                Term call = call(name, other, place, true);
                if (call.kind == 'V') {
                    expect(";");
                } else if (is(";")) {
                    throw new Refused(5, place);
                } else {
                    element(call);
                }
                return false;
            }
            char kind = field(name, other, place);
            return set(new Term(kind, place), 7, ENTRIES.get(name + "." + other));
        }
        char kind = variable(name, place);
        if (is("+=")) {
            need(new Term(kind, place), 'N');
            next();
            grow(local(name), number(Long.MIN_VALUE, Long.MAX_VALUE));
            next();
            expect(";");
            return false;
        }
        return set(new Term(kind, place), 4, local(name));
    }

    private void grow(int local, long by) {
        if (by >= -128 && by <= 127) {
            make(6, local, (int) by);
        } else {
            make(4, local, 0);
            makeNumber(by);
            make(9, 0, 0);
            make(5, local, 0);
        }
    }

    /** A variable (load 4) or a field (load 7) that is set, or an element of it. */
    private boolean set(Term target, int load, int has) {
        if (is("=")) {
            next();
            need(term(0), target.kind);
            make(load + 1, has, 0);
            expect(";");
        } else {
            make(load, has, 0);
            element(target);
        }
        return false;
    }

    private char variable(String name, int place) {
        if (!variables.containsKey(name)) {
            throw new Refused(3, place);
        }
        return variables.get(name);
    }

    private char field(String owner, String name, int place) {
        if (!FIELDS.containsKey(owner + "." + name)) {
            throw new Refused(4, place);
        }
        return FIELDS.get(owner + "." + name);
    }

    private boolean labelled(String label, int place) {
        if (around.containsKey(label)) {
            throw new Refused(2, place);
        }
        deeper(place);
        next();
        boolean leaves;
        boolean loop = is("loop") || is("while");
        around.put(label, loop);
        broken.remove(label);
        int goal = label();
        goals.put(label, goal);
        if (loop) {
            leaves = loop(goal);
        } else {
            leaves = list() && !broken.contains(label);
            stands(goal);
            blocks--;
        }
        around.remove(label);
        return leaves;
    }

    /** first [ e ] .. = e ; with the token behind first looked at. */
    private void element(Term first) {
        if (!is("[")) {
            throw new Refused(1, start);
        }
        Term now = first;
        while (is("[")) {
            now = index(now);
            if (is("[")) {
                make(25, 0, 0);
            }
        }
        expect("=");
        need(term(0), 'N');
        make(26, 0, 0);
        expect(";");
    }

    private Term index(Term array) {
        need(array, 'A');
        bracket();
        need(term(0), 'N');
        expect("]");
        brackets--;
        return new Term('N', array.place);
    }

    private void bracket() {
        if (brackets == 60) {
            throw new Refused(8, start);
        }
        brackets++;
        next();
    }

    private Term call(String owner, String name, int place, boolean begins) {
        bracket();
        StringBuilder kinds = new StringBuilder();
        while (!is(")")) {
            kinds.append(term(0).kind);
            if (is(",")) {
                next();
                if (is(")")) {
                    throw new Refused(1, start);
                }
            } else if (!is(")")) {
                throw new Refused(1, start);
            }
        }
        Character given = MEMBERS.get(owner + "." + name + ":" + kinds);
        if (given == null) {
            throw new Refused(4, place);
        }
        if (given == 'V' && !begins) {
            throw new Refused(5, place);
        }
        brackets--;
        make(44, ENTRIES.get(owner + "." + name + ":" + kinds), (given == 'V' ? 0 : 1) - kinds.length());
        next();
        return given == 'V' ? new Term('V', place) : behind(new Term(given, place));
    }

    /** A term that is read: the token behind it must be one. */
    private Term behind(Term term) {
        if (is("") || is("?")) {
            throw new Refused(1, start);
        }
        return term;
    }

    private Term term(int rank) {
        if (rank == RANKS.size()) {
            return front();
        }
        Term left = term(rank + 1);
        while (RANKS.get(rank).contains(token)) {
            need(left, 'N');
            int op = 9 + List.of("+", "-", "*", "/", "%", "&", "|", "^", "<<", ">>").indexOf(token);
            next();
            need(term(rank + 1), 'N');
            make(op, 0, 0);
            left = new Term('N', left.place);
        }
        return left;
    }

    private Term front() {
        int place = start;
        if (is("-") && !isMinusOfDigits()) {
            bracket();
            need(front(), 'N');
            make(19, 0, 0);
            brackets--;
            return new Term('N', place);
        }
        Term now = first(true);
        while (is("[")) {
            now = behind(index(now));
            make(25, 0, 0);
        }
        return now;
    }

    private Term first(boolean within) {
        int place = start;
        if (isDigits() || isMinusOfDigits()) {
            long value = number(Long.MIN_VALUE, Long.MAX_VALUE);
            makeNumber(value);
            next();
            return behind(new Term('N', place, false, value == 0));
        }
        if (isWord() && within) {
            return word(place);
        }
        if (is("none")) {
            make(3, 0, 0);
            next();
            return behind(new Term('A', place, true, false));
        }
        boolean make = is("make");
        if (make || is("size")) {
            next();
            if (!is("(")) {
                throw new Refused(1, start);
            }
            bracket();
            need(term(0), make ? 'N' : 'A');
            make(make ? 24 : 27, 0, 0);
            expect(")");
            brackets--;
            return behind(new Term(make ? 'A' : 'N', place));
        }
        if (!is("(")) {
            throw new Refused(1, place);
        }
        bracket();
        Term inner = term(0);
        expect(")");
        brackets--;
        return behind(new Term(inner.kind, place, inner.none, inner.zero));
    }

    /** A first that begins with a name. */
    private Term word(int place) {
        String name = token;
        next();
        if (!is(".")) {
            char kind = variable(name, place);
            make(4, local(name), 0);
            return behind(new Term(kind, place));
        }
        next();
        String other = word();
        if (is("(")) {
            return call(name, other, place, false);
        }
        char kind = field(name, other, place);
        make(7, ENTRIES.get(name + "." + other), 0);
        return behind(new Term(kind, place));
    }
}
