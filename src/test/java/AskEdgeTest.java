/** Promises 4 to 10: what is asked of files, entries, members, acts, locals and blocks that are there, and are not. */
public final class AskEdgeTest {
    private static final int[] ODD = {-1, -2, 100, 255, 65536, Integer.MAX_VALUE, Integer.MIN_VALUE};

    public static void main(String[] args) {
        files();
        madeOnes();
        askedFirst();
        bytes();
        names();
        numbers();
        signs();
        fieldsAndMembers();
        noSuchEntry();
        members();
        madeAgain();
        acts();
        kinds();
        blocks();
        Due.end();
    }

    private static Kit kit() {
        Kit kit = new Kit("House");
        kit.version = 3;
        kit.ownField("f", 'N');
        kit.number(7);
        kit.own("m", "NAN", 4, 3, Kit.code().op(4, 0).go(34, "a").op(1, 1).op(5, 2).at("a").op(4, 1).op(4, 0).op(25).op(45).op(0));
        kit.own("v", "V", 0, 0, Kit.code().op(46));
        return kit;
    }

    private static SourceBack house() {
        SourceBack x = new SourceBack();
        Due.same("take", Kit.take(x, kit().bytes()), 0);
        return x;
    }

    /** "A file, member and so on that there is not: NONE, false or 0." */
    private static void files() {
        SourceBack x = house();
        int[] want = {3, 10, 1, 2, kit().bytes().length, -2, 0};
        for (int what = 0; what < want.length; what++) {
            if (what != 5) {
                Due.same("file(0, " + what + ")", x.file(0, what), want[what]);
            }
        }
        for (int odd : ODD) {
            Due.same("file(" + odd + ", 0)", x.file(odd, 0), -1);
            Due.same("file(0, " + odd + ")", x.file(0, odd), -1);
        }
        Due.same("file(1, 0)", x.file(1, 0), -1);
        Due.same("file(0, 7)", x.file(0, 7), -1);
        for (int i = 1; i < 16; i++) {
            Kit.take(x, new Kit("H" + i).bytes());
            Due.same("file(" + i + ", 0)", x.file(i, 0), 1);
            Due.same("file(" + (i + 1) + ", 0)", x.file(i + 1, 0), -1);
        }
    }

    /** "5: bytes of the made one (NONE if there is none)": all members must have a text. */
    private static void madeOnes() {
        String[] names = {"a", "b", "c"};
        for (int without = -1; without < 3; without++) {
            Kit kit = new Kit("F");
            for (int m = 0; m < 3; m++) {
                kit.own(m == without ? "end" : names[m], "V", 0, 0, Kit.code().op(46));
            }
            SourceBack x = new SourceBack();
            Kit.take(x, kit.bytes());
            Due.same("without " + without, x.file(0, 5), without < 0 ? kit.bytes().length : -1);
            Due.same("its first byte", x.byteAt(0, 1, 0), without < 0 ? 0xB0 : -1);
            Due.same("files with a made one", x.count(5), without < 0 ? 1 : 0);
            for (int m = 0; m < 3; m++) {
                Due.same("a text of " + m, x.member(0, m, 8) > 0, m != without);
                Due.same("by itself", x.member(0, m, 9), m == without ? -1 : 2);
            }
        }
        SourceBack none = new SourceBack();
        Kit.take(none, new Kit("F").bytes());
        Due.same("no members at all", none.file(0, 5), 17);
        Due.same("files with a made one", none.count(5), 1);
    }

    /** The made one is there whatever is asked first. */
    private static void askedFirst() {
        Kit kit = new Kit("F").own("a", "V", 0, 0, Kit.code().op(46)).own("b", "V", 0, 0, Kit.code().op(0).op(46));
        SourceBack x = new SourceBack();
        Kit.take(x, kit.bytes());
        Due.same("a byte", x.byteAt(0, 1, 0), 0xB0);
        SourceBack y = new SourceBack();
        Kit.take(y, kit.bytes());
        Due.same("how many have one", y.count(5), 1);
        SourceBack z = new SourceBack();
        Kit.take(z, kit.bytes());
        Due.same("how long", z.file(0, 5), kit.bytes().length - 1);
        SourceBack u = new SourceBack();
        Kit.take(u, kit.bytes());
        u.call(1, 0, 1, 0, 0);
        Due.same("its steps", u.steps(1, 9), 1);
        SourceBack v = new SourceBack();
        Kit.take(v, kit.bytes());
        Due.same("made again", v.member(0, 1, 9), 1);
        Due.same("alike", v.alike(0, 0, 0), 2);
    }

    private static void bytes() {
        SourceBack x = house();
        for (int side = 0; side < 2; side++) {
            int n = x.file(0, 4 + side);
            Due.same("the first", x.byteAt(0, side, 0), 0xB0);
            Due.same("the last", x.byteAt(0, side, n - 1), 46);
            Due.same("behind it", x.byteAt(0, side, n), -1);
            for (int odd : new int[] {-1, Integer.MAX_VALUE, Integer.MIN_VALUE}) {
                Due.same("byteAt(0, " + side + ", " + odd + ")", x.byteAt(0, side, odd), -1);
                Due.same("byteAt(" + odd + ", " + side + ", 0)", x.byteAt(odd, side, 0), -1);
                Due.same("byteAt(0, " + odd + ", 0)", x.byteAt(0, odd, 0), -1);
            }
            Due.same("byteAt(1, " + side + ", 0)", x.byteAt(1, side, 0), -1);
        }
        Due.same("byteAt(0, 2, 0)", x.byteAt(0, 2, 0), -1);
    }

    private static void none(SourceBack x, int f, int k, int what) {
        Due.throwing("entry(" + f + ", " + k + ", " + what + ")", IndexOutOfBoundsException.class, () -> x.entry(f, k, what));
    }

    /** "or that tag has no such what": of a NAME 0, 1 and 4 .. */
    private static void names() {
        String longest = "a_Z0123456789bcdefghijklmnopqr";
        SourceBack x = new SourceBack();
        Kit.take(x, new Kit(longest).bytes());
        Due.same("tag", x.entry(0, 1, 0), 1);
        Due.same("letters", x.entry(0, 1, 1), 30);
        for (int i = 0; i < 30; i++) {
            Due.same("letter " + i, x.entry(0, 1, 4 + i), longest.charAt(i));
        }
        for (int what : new int[] {-1, 2, 3, 34, 35, Integer.MAX_VALUE, Integer.MIN_VALUE}) {
            none(x, 0, 1, what);
        }
        SourceBack y = new SourceBack();
        Kit.take(y, new Kit("F").bytes());
        Due.same("one letter", y.entry(0, 1, 4), 'F');
        none(y, 0, 1, 5);
    }

    /** Of a NUMBER 0 and 1. */
    private static void numbers() {
        long[] numbers = {0, -1, 1, 255, 256, -256, Long.MAX_VALUE, Long.MIN_VALUE, 0x0123456789ABCDEFL, 0x80000000L, -0x80000000L};
        Kit kit = new Kit("F");
        for (long n : numbers) {
            kit.number(n);
        }
        SourceBack x = new SourceBack();
        Kit.take(x, kit.bytes());
        for (int i = 0; i < numbers.length; i++) {
            Due.same("tag", x.entry(0, 2 + i, 0), 2);
            Due.same("number", x.entry(0, 2 + i, 1), numbers[i]);
            for (int what : new int[] {-1, 2, 3, 4, 5}) {
                none(x, 0, 2 + i, what);
            }
        }
    }

    /** Of a SIGN 0 to 2 and 4 .. */
    private static void signs() {
        String[] signs = {"N", "A", "V", "NV", "AN", "NANANANAA", "ANANANANV"};
        Kit kit = new Kit("F");
        for (String s : signs) {
            kit.sign(s);
        }
        SourceBack x = new SourceBack();
        Kit.take(x, kit.bytes());
        for (int k = 0; k < signs.length; k++) {
            int n = signs[k].length() - 1;
            Due.same("tag", x.entry(0, 2 + k, 0), 3);
            Due.same("parameters", x.entry(0, 2 + k, 1), n);
            Due.same("result", x.entry(0, 2 + k, 2), "NAV".indexOf(signs[k].charAt(n)));
            for (int i = 0; i < n; i++) {
                Due.same("parameter " + i, x.entry(0, 2 + k, 4 + i), "NA".indexOf(signs[k].charAt(i)));
            }
            for (int what : new int[] {-1, 3, 4 + n, 5 + n, Integer.MAX_VALUE}) {
                none(x, 0, 2 + k, what);
            }
        }
    }

    /** Of a FIELD and a MEMBER 0 to 3. */
    private static void fieldsAndMembers() {
        SourceBack x = house();
        // 1 House 2 f 3 House.f 4 number 5 m 6 NA:N 7 House.m 8 v 9 :V 10 House.v
        long[][] want = {{4, 1, 2, 0}, {5, 1, 5, 6}, {5, 1, 8, 9}};
        int[] entries = {3, 7, 10};
        for (int i = 0; i < entries.length; i++) {
            for (int what = 0; what < 4; what++) {
                Due.same("entry(0, " + entries[i] + ", " + what + ")", x.entry(0, entries[i], what), want[i][what]);
            }
            for (int what : new int[] {-1, 4, 5, Integer.MAX_VALUE, Integer.MIN_VALUE}) {
                none(x, 0, entries[i], what);
            }
        }
        Kit kit = new Kit("F");
        int array = kit.field("G", "g", 'A');
        SourceBack y = new SourceBack();
        Kit.take(y, kit.bytes());
        Due.same("a field's kind A", y.entry(0, array, 3), 1);
    }

    /** "IndexOutOfBoundsException if there is none such": from 1 on. */
    private static void noSuchEntry() {
        SourceBack x = house();
        for (int k : new int[] {0, 11, 12, -1, 65536, Integer.MAX_VALUE, Integer.MIN_VALUE}) {
            none(x, 0, k, 0);
            none(x, 0, k, 1);
        }
        for (int f : new int[] {-1, 1, 15, 16, Integer.MAX_VALUE, Integer.MIN_VALUE}) {
            none(x, f, 1, 0);
        }
        none(new SourceBack(), 0, 1, 0);
    }

    private static void members() {
        SourceBack x = house();
        int[][] want = {{7, 4, 3, 16, 9, 8, 3, 0}, {10, 0, 0, 1, 1, 1, 1, 0}};
        for (int m = 0; m < 2; m++) {
            for (int what = 0; what < 8; what++) {
                Due.same("member(0, " + m + ", " + what + ")", x.member(0, m, what), want[m][what]);
            }
        }
        for (int what = 0; what < 10; what++) {
            Due.same("member(0, 2, " + what + ")", x.member(0, 2, what), -1);
            for (int odd : ODD) {
                Due.same("member(0, " + odd + ", " + what + ")", x.member(0, odd, what), -1);
                Due.same("member(" + odd + ", 0, " + what + ")", x.member(odd, 0, what), -1);
            }
        }
        Due.same("member(0, 0, 10)", x.member(0, 0, 10), -1);
        for (int odd : ODD) {
            Due.same("member(0, 0, " + odd + ")", x.member(0, 0, odd), -1);
        }
    }

    private static int again(Kit.Code code) {
        SourceBack x = new SourceBack();
        Due.same("take", Kit.take(x, new Kit("F").own("m", "NV", 3, 9, code).bytes()), 0);
        return x.member(0, 0, 9);
    }

    /** "9: what came of making it again": 2, 1, 0, or NONE without a text. */
    private static void madeAgain() {
        Due.same("the same acts", again(Kit.code().op(4, 0).op(5, 0).op(46)), 2);
        Due.same("the same acts that go", again(Kit.code().op(4, 0).go(35, "a").op(6, 0, 1).at("a").op(46)), 2);
        // "those that are not reached, too"
        Due.same("one more that is not reached", again(Kit.code().op(46).op(0)), 1);
        Due.same("one that does nothing", again(Kit.code().op(0).op(46)), 1);
        // Another local for the same variable.
        Due.same("local 2 becomes 1", again(Kit.code().op(1, 1).op(5, 2).op(46)), 0);
        Due.same("a temporary", again(Kit.code().op(4, 0).op(21).op(20).op(20).op(46)), 0);
        // Labels tell the byte: one that is shifted is another text.
        Due.same("a label that moves", again(Kit.code().op(0).at("h").op(6, 0, 1).at("i").op(4, 0).go(34, "h").op(6, 0, 2).go(42, "i")), 0);
        // An entry that is alike, of a lesser number.
        Kit kit = new Kit("F");
        kit.twice = true;
        kit.number(1000);
        int second = kit.number(1000);
        SourceBack x = new SourceBack();
        Kit.take(x, kit.own("m", "V", 0, 1, Kit.code().of(2, second).op(20).op(46)).bytes());
        Due.same("an entry alike", x.member(0, 0, 9), 2);
        Kit small = new Kit("F");
        int five = small.number(5);
        SourceBack y = new SourceBack();
        Kit.take(y, small.own("m", "V", 0, 1, Kit.code().of(2, five).op(20).op(46)).bytes());
        Due.same("2 becomes 1, with the same text", y.member(0, 0, 9), 1);
        SourceBack z = new SourceBack();
        Kit.take(z, new Kit("F").own("if", "V", 0, 0, Kit.code().op(46)).bytes());
        Due.same("without a text", z.member(0, 0, 9), -1);
    }

    private static void acts() {
        SourceBack x = house();
        int[][] first = {{0, 4, 1, 0, 0}, {2, 34, 1, 1, 0}, {5, 1, 1, 0, 1}, {7, 5, 1, 1, 1}, {9, 4, 1, 0, 2}};
        for (int i = 0; i < first.length; i++) {
            for (int what = 0; what < 5; what++) {
                Due.same("act(0, 0, " + i + ", " + what + ")", x.act(0, 0, i, what), first[i][what]);
            }
        }
        int[] last = {15, 0, 0, -1, -1};
        for (int what = 0; what < 5; what++) {
            Due.same("the last act", x.act(0, 0, 8, what), last[what]);
            Due.same("behind it", x.act(0, 0, 9, what), -1);
            for (int odd : ODD) {
                Due.same("act(0, 0, " + odd + ", " + what + ")", x.act(0, 0, odd, what), -1);
                Due.same("act(0, " + odd + ", 0, " + what + ")", x.act(0, odd, 0, what), -1);
                Due.same("act(" + odd + ", 0, 0, " + what + ")", x.act(odd, 0, 0, what), -1);
            }
        }
        Due.same("act(0, 0, 0, 5)", x.act(0, 0, 0, 5), -1);
        for (int odd : ODD) {
            Due.same("act(0, 0, 0, " + odd + ")", x.act(0, 0, 0, odd), -1);
        }
        Due.same("act(0, 2, 0, 0)", x.act(0, 2, 0, 0), -1);
        Due.same("act(1, 0, 0, 0)", x.act(1, 0, 0, 0), -1);
    }

    /** "with -1 - i for the local that of value i of the pile, from below" */
    private static void kinds() {
        SourceBack x = house();
        int[] locals = {1, 2, 3, 0};
        for (int i = 0; i < 4; i++) {
            Due.same("local " + i, x.kind(0, 0, 4, i), locals[i]);
        }
        Due.same("local 4", x.kind(0, 0, 4, 4), -1);
        Due.same("local 2 ahead of it", x.kind(0, 0, 0, 2), 0);
        Due.same("local 2 behind 5", x.kind(0, 0, 3, 2), 0);
        Due.same("no value", x.kind(0, 0, 4, -1), -1);
        Due.same("value 0", x.kind(0, 0, 6, -1), 2);
        Due.same("value 1", x.kind(0, 0, 6, -2), 1);
        Due.same("value 2", x.kind(0, 0, 6, -3), -1);
        for (int odd : new int[] {60, 61, -60, -61, -62, Integer.MAX_VALUE, Integer.MIN_VALUE}) {
            Due.same("kind(0, 0, 6, " + odd + ")", x.kind(0, 0, 6, odd), -1);
        }
        for (int odd : ODD) {
            Due.same("kind(0, 0, " + odd + ", 0)", x.kind(0, 0, odd, 0), -1);
            Due.same("kind(0, " + odd + ", 0, 0)", x.kind(0, odd, 0, 0), -1);
            Due.same("kind(" + odd + ", 0, 0, 0)", x.kind(odd, 0, 0, 0), -1);
        }
        Due.same("an act that is not reached", x.kind(0, 0, 8, 0), -1);
        Due.same("behind the last", x.kind(0, 0, 9, 0), -1);
        Due.same("a member without locals", x.kind(0, 1, 0, 0), -1);
        // 60 values, 60 locals.
        Kit.Code code = Kit.code();
        for (int i = 0; i < 60; i++) {
            code = i % 2 == 0 ? code.op(3) : code.op(1, i);
        }
        Kit kit = new Kit("F").own("m", "V", 60, 60, code.op(46));
        SourceBack y = new SourceBack();
        Due.same("take", Kit.take(y, kit.bytes()), 0);
        for (int i = 0; i < 60; i++) {
            Due.same("value " + i, y.kind(0, 0, 60, -1 - i), i % 2 == 0 ? 2 : 1);
            Due.same("local " + i, y.kind(0, 0, 60, i), 0);
        }
        Due.same("value 60", y.kind(0, 0, 60, -61), -1);
        Due.same("local 60", y.kind(0, 0, 60, 60), -1);
        Due.same("how many", y.act(0, 0, 60, 3), 60);
    }

    private static void blocks() {
        SourceBack x = house();
        int[][] want = {{0, -1, 0, 0, 2, 2, 1}, {5, 0, 0, 0, 1, 2}, {9, 0, 0, 1, 0}};
        for (int b = 0; b < 3; b++) {
            for (int what = 0; what < want[b].length; what++) {
                Due.same("block(0, 0, " + b + ", " + what + ")", x.block(0, 0, b, what), want[b][what]);
            }
            Due.same("no more ways", x.block(0, 0, b, want[b].length), -1);
            for (int odd : ODD) {
                Due.same("block(0, 0, " + b + ", " + odd + ")", x.block(0, 0, b, odd), -1);
            }
        }
        for (int what = 0; what < 6; what++) {
            Due.same("block 3", x.block(0, 0, 3, what), -1);
            for (int odd : ODD) {
                Due.same("block(0, 0, " + odd + ", " + what + ")", x.block(0, 0, odd, what), -1);
                Due.same("block(0, " + odd + ", 0, " + what + ")", x.block(0, odd, 0, what), -1);
                Due.same("block(" + odd + ", 0, 0, " + what + ")", x.block(odd, 0, 0, what), -1);
            }
        }
        // A switch with 40 ends beside d has 41 ways.
        StringBuilder goals = new StringBuilder("d");
        Kit.Code code = Kit.code().op(4, 0);
        for (int k = 0; k < 40; k++) {
            goals.append(" ").append(k).append(":k").append(k);
        }
        code.choose(goals.toString());
        for (int k = 0; k < 40; k++) {
            code.at("k" + k).op(46);
        }
        SourceBack y = new SourceBack();
        Due.same("take", Kit.take(y, new Kit("F").own("m", "NV", 1, 1, code.at("d").op(46)).bytes()), 0);
        Due.same("ways", y.block(0, 0, 0, 4), 41);
        Due.same("the first", y.block(0, 0, 0, 5), 41);
        Due.same("the last key's", y.block(0, 0, 0, 44), 2);
        Due.same("d", y.block(0, 0, 0, 45), 1);
        Due.same("no more", y.block(0, 0, 0, 46), -1);
    }
}
