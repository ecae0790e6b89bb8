/** Terms 8 and 9: the ranks of operators, two of them at a time, in shown texts and in texts that are judged. */
public final class RankTest {
    /** The operators of acts 9 to 18, and their ranks from the loosest (1) on. */
    private static final String[] SIGNS = {"+", "-", "*", "/", "%", "&", "|", "^", "<<", ">>"};
    private static final int[] RANKS = {5, 5, 6, 6, 6, 3, 1, 2, 4, 4};

    public static void main(String[] args) {
        shown();
        shownMinus();
        shownConditions();
        judged();
        judgedMinus();
        Due.end();
    }

    /** The text of a term that is given; locals 0 to 2 are N, 3 is A. */
    private static void term(Kit.Code code, String want) {
        SourceBack x = new SourceBack();
        Kit.take(x, new Kit("F").own("m", "NNNAN", 4, 9, code.op(45)).bytes());
        Due.same(want, Kit.text(x, 0, 0),
            "number m(number n0, number n1, number n2, array r3) {\n  give " + want + ";\n}\n");
    }

    private static String bracketed(String term, boolean so) {
        return so ? "(" + term + ")" : term;
    }

    /** "as the left one of an operator, lower than it; as the right one, not higher" */
    private static void shown() {
        for (int outer = 0; outer < 10; outer++) {
            for (int inner = 0; inner < 10; inner++) {
                String left = bracketed("n0 " + SIGNS[inner] + " n1", RANKS[inner] < RANKS[outer]);
                term(Kit.code().op(4, 0).op(4, 1).op(9 + inner).op(4, 2).op(9 + outer), left + " " + SIGNS[outer] + " n2");
                String right = bracketed("n1 " + SIGNS[inner] + " n2", RANKS[inner] <= RANKS[outer]);
                term(Kit.code().op(4, 0).op(4, 1).op(4, 2).op(9 + inner).op(9 + outer), "n0 " + SIGNS[outer] + " " + right);
            }
        }
    }

    /** "behind -, lower than - or a number or another -": - is tighter than all operators. */
    private static void shownMinus() {
        for (int op = 0; op < 10; op++) {
            term(Kit.code().op(4, 0).op(4, 1).op(9 + op).op(19), "-(n0 " + SIGNS[op] + " n1)");
            term(Kit.code().op(4, 0).op(19).op(4, 1).op(9 + op), "-n0 " + SIGNS[op] + " n1");
            term(Kit.code().op(4, 0).op(4, 1).op(19).op(9 + op), "n0 " + SIGNS[op] + " -n1");
            term(Kit.code().op(4, 0).op(1, 255).op(9 + op), "n0 " + SIGNS[op] + " -1");
            term(Kit.code().op(1, 255).op(4, 0).op(9 + op), "-1 " + SIGNS[op] + " n0");
            term(Kit.code().op(4, 3).op(4, 0).op(4, 1).op(9 + op).op(25), "r3[n0 " + SIGNS[op] + " n1]");
            term(Kit.code().op(4, 0).op(4, 1).op(9 + op).op(24).op(27), "size(make(n0 " + SIGNS[op] + " n1))");
        }
        term(Kit.code().op(4, 3).op(4, 0).op(25).op(19), "-r3[n0]");
        term(Kit.code().op(4, 3).op(4, 0).op(19).op(25), "r3[-n0]");
        term(Kit.code().op(4, 3).op(27).op(19), "-size(r3)");
        term(Kit.code().op(1, 0).op(19), "-(0)");
        term(Kit.code().op(1, 255).op(19), "-(-1)");
        term(Kit.code().op(4, 0).op(19).op(19).op(19), "-(-(-n0))");
    }

    /** "a side of c is never in brackets" */
    private static void shownConditions() {
        String[] conditions = {"==", "!=", "<", "<=", ">", ">="};
        for (int op = 0; op < 10; op++) {
            for (int c = 0; c < 6; c++) {
                SourceBack x = new SourceBack();
                Kit.take(x, new Kit("F").own("m", "NNN", 2, 9, Kit.code().op(4, 0).op(4, 1).op(9 + op).op(4, 1).op(4, 0).op(9 + op)
                    .go(28 + c, "a").op(1, 1).op(45).at("a").op(1, 2).op(45)).bytes());
                Due.same("condition", Kit.text(x, 0, 0), "number m(number n0, number n1) {\n  if (n0 " + SIGNS[op] + " n1 "
                    + conditions[c] + " n1 " + SIGNS[op] + " n0) {\n    give 2;\n  }\n  give 1;\n}\n");
            }
        }
    }

    /** The code of a term that is given, in a member with numbers a, b, c. */
    private static void made(String term, Kit.Code code) {
        SourceBack x = new SourceBack();
        Kit.take(x, new Kit("F").own("m", "NNNN", 3, 9, Kit.code().op(4, 0).op(45)).bytes());
        Due.same(term, Kit.edit(x, 0, 0, "number m(number a, number b, number c) { give " + term + "; }"), 0);
        byte[] want = code.op(45).bytes();
        Due.same(term + ", bytes", x.member(0, 0, 3), want.length);
        int first = x.file(0, 4) - want.length;
        for (int i = 0; i < want.length; i++) {
            Due.same(term + ", byte " + i, x.byteAt(0, 0, first + i), want[i] & 255);
        }
    }

    /** "e by the ranks (8), operators of one rank from the left" */
    private static void judged() {
        for (int first = 0; first < 10; first++) {
            for (int second = 0; second < 10; second++) {
                Kit.Code left = Kit.code().op(4, 0).op(4, 1).op(9 + first).op(4, 2).op(9 + second);
                Kit.Code right = Kit.code().op(4, 0).op(4, 1).op(4, 2).op(9 + second).op(9 + first);
                String term = "a " + SIGNS[first] + " b " + SIGNS[second] + " c";
                made(term, RANKS[first] >= RANKS[second] ? left : right);
                made(term.replace(" ", ""), RANKS[first] >= RANKS[second] ? Kit.code().op(4, 0).op(4, 1).op(9 + first).op(4, 2)
                    .op(9 + second) : Kit.code().op(4, 0).op(4, 1).op(4, 2).op(9 + second).op(9 + first));
                made("(a " + SIGNS[first] + " b) " + SIGNS[second] + " c",
                    Kit.code().op(4, 0).op(4, 1).op(9 + first).op(4, 2).op(9 + second));
                made("a " + SIGNS[first] + " (b " + SIGNS[second] + " c)",
                    Kit.code().op(4, 0).op(4, 1).op(4, 2).op(9 + second).op(9 + first));
            }
        }
    }

    private static void judgedMinus() {
        for (int op = 0; op < 10; op++) {
            made("- a " + SIGNS[op] + " b", Kit.code().op(4, 0).op(19).op(4, 1).op(9 + op));
            made("a " + SIGNS[op] + " - b", Kit.code().op(4, 0).op(4, 1).op(19).op(9 + op));
            made("a " + SIGNS[op] + " -5", Kit.code().op(4, 0).op(1, 251).op(9 + op));
            made("a" + SIGNS[op] + "5", Kit.code().op(4, 0).op(1, 5).op(9 + op));
            made("a" + SIGNS[op] + "-5", Kit.code().op(4, 0).op(1, 251).op(9 + op));
            made("-5" + SIGNS[op] + "a", Kit.code().op(1, 251).op(4, 0).op(9 + op));
            made("- -a" + SIGNS[op] + "b", Kit.code().op(4, 0).op(19).op(19).op(4, 1).op(9 + op));
        }
        made("- 5", Kit.code().op(1, 5).op(19));
        made("--5", Kit.code().op(1, 251).op(19));
        made("-(5)", Kit.code().op(1, 5).op(19));
        made("- make(a)[b]", Kit.code().op(4, 0).op(24).op(4, 1).op(25).op(19));
        made("- size(make(a))", Kit.code().op(4, 0).op(24).op(27).op(19));
    }
}
