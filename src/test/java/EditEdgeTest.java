import java.io.ByteArrayOutputStream;

/** Terms 10, promises 13 to 16: making, editing and comparing at their edges, and calls that are refused. */
public final class EditEdgeTest {
    public static void main(String[] args) {
        smallNumbers();
        growing();
        zeros();
        leavingParts();
        newEntries();
        knownEntries();
        pilesOfMade();
        poolOfMade();
        largePool();
        firstEntry();
        ruleOfRounds();
        entriesAbove();
        longerThanATape();
        otherHead();
        headBehindAllElse();
        nothingChanged();
        eightUndone();
        undoneByFile();
        pairs();
        alikeOrNot();
        entriesAlike();
        Due.end();
    }

    private static Kit base() {
        Kit kit = new Kit("F");
        kit.ownField("f", 'N');
        kit.number(1000);
        return kit;
    }

    /** The code that a text with these statements is made to, in a member with a number n and no result. */
    private static void made(String statements, int pile, Kit want, Kit.Code code) {
        SourceBack x = new SourceBack();
        Kit.take(x, base().own("m", "NV", 1, 0, Kit.code().op(46)).bytes());
        String text = "void m(number n) {" + statements + "}";
        Due.same(text, Kit.edit(x, 0, 0, text), 0);
        byte[] bytes = code.bytes();
        Due.same(text + ", bytes of code", x.member(0, 0, 3), bytes.length);
        Due.same(text + ", pile", x.member(0, 0, 2), pile);
        int first = x.file(0, 4) - bytes.length;
        for (int i = 0; i < bytes.length; i++) {
            Due.same(text + ", byte " + i, x.byteAt(0, 0, first + i), bytes[i] & 255);
        }
        Due.same(text + ", entries", x.file(0, 1), want == null ? 7 : want.bytes()[7]);
    }

    /** The pool of base() with its member, and more numbers behind. */
    private static Kit more(long... numbers) {
        Kit kit = base();
        kit.member("F", "m", "NV");
        for (long n : numbers) {
            kit.number(n);
        }
        return kit;
    }

    /** "a number: 1 if -128 .. 127, else 2" */
    private static void smallNumbers() {
        for (int n : new int[] {-128, -127, -1, 0, 1, 126, 127}) {
            made("n = " + n + ";", 1, null, Kit.code().op(1, n & 255).op(5, 0).op(46));
        }
        for (long n : new long[] {-129, 128, 255, 256, -32768, Long.MAX_VALUE, Long.MIN_VALUE}) {
            made("n = " + n + ";", 1, more(n), Kit.code().of(2, 8).op(5, 0).op(46));
        }
        made("n = 1000;", 1, null, Kit.code().of(2, 4).op(5, 0).op(46));
    }

    /** "x += k: 6, if -128 .. 127, else 4, number, 9, 5 (k may be any constant)" */
    private static void growing() {
        for (int n : new int[] {-128, -1, 0, 1, 127}) {
            made("n += " + n + ";", 0, null, Kit.code().op(6, 0, n & 255).op(46));
        }
        for (long n : new long[] {-129, 128, Long.MAX_VALUE, Long.MIN_VALUE}) {
            made("n += " + n + ";", 2, more(n), Kit.code().op(4, 0).of(2, 8).op(9).op(5, 0).op(46));
        }
        made("n += 1000;", 2, null, Kit.code().op(4, 0).of(2, 4).op(9).op(5, 0).op(46));
    }

    /** "if the right one is the constant 0, in brackets or -0, too", "with none on the right, in brackets, too" */
    private static void zeros() {
        for (String zero : new String[] {"0", "-0", "(0)", "((-0))", "00"}) {
            made("if (n < " + zero + ") { }", 1, null, Kit.code().op(4, 0).go(39, "a").at("a").op(46));
        }
        made("if (n < 1) { }", 2, null, Kit.code().op(4, 0).op(1, 1).go(33, "a").at("a").op(46));
        made("if (n < -(0)) { }", 2, null, Kit.code().op(4, 0).op(1, 0).op(19).go(33, "a").at("a").op(46));
        made("if (n < 0 + 0) { }", 3, null, Kit.code().op(4, 0).op(1, 0).op(1, 0).op(9).go(33, "a").at("a").op(46));
        made("if (n < (n)) { }", 2, null, Kit.code().op(4, 0).op(4, 0).go(33, "a").at("a").op(46));
        made("if (n < (1)) { }", 2, null, Kit.code().op(4, 0).op(1, 1).go(33, "a").at("a").op(46));
        made("if (0 < n) { }", 2, null, Kit.code().op(1, 0).op(4, 0).go(33, "a").at("a").op(46));
        made("if (0 == 0) { }", 1, null, Kit.code().op(1, 0).go(35, "a").at("a").op(46));
        made("if (none == ((none))) { }", 1, null, Kit.code().op(3).go(41, "a").at("a").op(46));
        made("while (none != none) { }", 1, null, Kit.code().op(3).go(40, "7").go(42, "0").op(46));
    }

    /** "42 to the end unless S leaves", "if it is reached: 46" */
    private static void leavingParts() {
        made("if (n == 0) { end; } else { n = 1; }", 1, null, Kit.code().op(4, 0).go(35, "a").op(46).at("a").op(1, 1).op(5, 0).op(46));
        made("if (n == 0) { n = 1; } else { end; }", 1, null,
            Kit.code().op(4, 0).go(35, "a").op(1, 1).op(5, 0).go(42, "x").at("a").op(46).at("x").op(46));
        made("if (n == 0) { end; } else { end; }", 1, null, Kit.code().op(4, 0).go(35, "a").op(46).at("a").op(46));
        made("if (n == 0) { end; } else { }", 1, null, Kit.code().op(4, 0).go(35, "a").op(46).at("a").op(46));
        made("loop { }", 0, null, Kit.code().go(42, "0"));
        made("loop { end; }", 0, null, Kit.code().op(46));
        made("loop { end; } n = 1;", 1, null, Kit.code().op(46).op(1, 1).op(5, 0).op(46));
        made("l: loop { next l; }", 0, null, Kit.code().go(42, "0"));
        made("b: { }", 0, null, Kit.code().op(46));
        made("b: { end; }", 0, null, Kit.code().op(46));
        made("b: { break b; }", 0, null, Kit.code().go(42, "3").op(46));
        made("b: { end; break b; }", 0, null, Kit.code().op(46).go(42, "4").op(46));
        made("switch (n) { default: { end; } }", 1, null, Kit.code().op(4, 0).choose("6").op(46));
        made("switch (n) { case 1: { } default: { } }", 1, null, Kit.code().op(4, 0).choose("15 1:12").go(42, "15").op(46));
        made("switch (n) { case 1: { end; } default: { } }", 1, null, Kit.code().op(4, 0).choose("13 1:12").op(46).op(46));
        made("switch (n) { case 2147483647, -2147483648, 0: { } default: { end; } }", 1, null,
            Kit.code().op(4, 0).choose("27 -2147483648:24 0:24 2147483647:24").go(42, "28").op(46).op(46));
    }

    /** "An edited member's entries that are new come behind those that are there", "no two alike" */
    private static void newEntries() {
        SourceBack x = new SourceBack();
        Kit.take(x, base().own("m", "NV", 1, 0, Kit.code().op(46)).bytes());
        Due.same("entries", x.file(0, 1), 7);
        Due.same("edit", Kit.edit(x, 0, 0, "void m(number n) { n = 300; n = 200; n = 300; n += 200; n = 1000; n = 5; }"), 0);
        Due.same("two more", x.file(0, 1), 9);
        Due.same("as they stand", x.entry(0, 8, 1), 300);
        Due.same("as they stand", x.entry(0, 9, 1), 200);
        Due.throwing("no more", IndexOutOfBoundsException.class, () -> x.entry(0, 10, 0));
        Due.same("edit", Kit.edit(x, 0, 0, "void m(number n) { n = 400; n = 200; }"), 0);
        Due.same("those of an edit stay", x.file(0, 1), 10);
        Due.same("behind them", x.entry(0, 10, 1), 400);
        Due.same("undo", x.undo(0), true);
        Due.same("entries", x.file(0, 1), 9);
        Due.same("undo", x.undo(0), true);
        Due.same("entries", x.file(0, 1), 7);
    }

    /** "the entry of the least number", of fields, members and numbers. */
    private static void knownEntries() {
        Kit kit = new Kit("F");
        kit.twice = true;
        int number = kit.number(777);
        kit.number(777);
        int field = kit.field("G", "f", 'N');
        kit.field("G", "f", 'N');
        int member = kit.member("G", "h", "NN");
        kit.member("G", "h", "NN");
        kit.member("G", "h", "NA");
        int other = kit.member("G", "h", "AN");
        kit.own("m", "NV", 1, 0, Kit.code().op(46));
        SourceBack x = new SourceBack();
        Kit.take(x, kit.bytes());
        int entries = x.file(0, 1);
        Due.same("edit", Kit.edit(x, 0, 0, "void m(number n) { G.f = 777 + G.h(n) + G.h(none); }"), 0);
        Due.same("none is new", x.file(0, 1), entries);
        byte[] want = Kit.code().of(2, number).op(4, 0).of(44, member).op(9).op(3).of(44, other).op(9).of(8, field).op(46).bytes();
        int first = x.file(0, 4) - want.length;
        for (int i = 0; i < want.length; i++) {
            Due.same("byte " + i, x.byteAt(0, 0, first + i), want[i] & 255);
        }
    }

    /** "PILE is how many values lie there at most, of whatever acts stand there" */
    private static void pilesOfMade() {
        String[] texts = {"", "n = n;", "n = n + n;", "n = n + (n + n);", "end; n = n + (n + (n + n));", "fail n;", "F.f = n;",
            "drop -n;", "if (n == 0) {}", "if (n == n) {}", "while (n == n + n) {}", "switch (n + n) { default: {} }"};
        int[] piles = {0, 1, 2, 3, 4, 1, 1, 1, 1, 2, 3, 2};
        for (int i = 0; i < texts.length; i++) {
            SourceBack x = new SourceBack();
            Kit.take(x, base().own("m", "NV", 9, 9, Kit.code().op(46)).bytes());
            Due.same(texts[i], Kit.edit(x, 0, 0, "void m(number n) {" + texts[i] + "}"), 0);
            Due.same(texts[i] + ", pile", x.member(0, 0, 2), piles[i]);
            Due.same(texts[i] + ", locals", x.member(0, 0, 1), 1);
        }
        SourceBack y = new SourceBack();
        Kit.take(y, base().own("m", "NV", 9, 9, Kit.code().op(46)).bytes());
        Due.same("unused variables", Kit.edit(y, 0, 0, "void m(number n) { number a, b; array c; number d; d = n; }"), 0);
        Due.same("locals", y.member(0, 0, 1), 5);
    }

    /** "The POOL of a made file: what it has, in the order: ..; no two alike." */
    private static void poolOfMade() {
        Kit kit = new Kit("F");
        kit.twice = true;
        kit.version = 9;
        kit.name("unused");
        int big = kit.number(5000);
        int small = kit.number(5);
        int again = kit.number(5000);
        int far = kit.member("G", "go", "AV");
        int same = kit.member("G", "go", "AV");
        int f = kit.ownField("f", 'N');
        kit.ownField("g", 'A');
        kit.own("a", "V", 0, 1, Kit.code().op(3).of(44, far).of(2, big).of(8, f).of(2, small).of(8, f).op(46));
        kit.own("b", "NV", 1, 1, Kit.code().of(2, again).op(20).op(3).of(44, same).op(46));
        SourceBack x = new SourceBack();
        Due.same("take", Kit.take(x, kit.bytes()), 0);
        Kit want = new Kit("F");
        want.version = 9;
        int ownField = want.ownField("f", 'N');
        want.ownField("g", 'A');
        int a = want.member("F", "a", "V");
        int b = want.member("F", "b", "NV");
        int go = want.member("G", "go", "AV");
        int number = want.number(5000);
        want.own(a, 0, 1, Kit.code().op(3).of(44, go).of(2, number).of(8, ownField).op(1, 5).of(8, ownField).op(46).bytes());
        want.own(b, 1, 1, Kit.code().of(2, number).op(20).op(3).of(44, go).op(46).bytes());
        Due.same("the made one", Kit.bytes(x, 0, 1), want.bytes());
        Due.same("its length", x.file(0, 5), want.bytes().length);
        // A file without fields and members: its name alone.
        Kit none = new Kit("G");
        none.number(7);
        Kit.take(x, none.bytes());
        Due.same("nothing else", Kit.bytes(x, 1, 1), new Kit("G").bytes());
    }

    /** A made file with more than 255 entries: what they ask for has two bytes. */
    private static void largePool() {
        Kit kit = new Kit("F");
        Kit want = new Kit("F");
        int m = want.member("F", "m", "V");
        Kit.Code code = Kit.code();
        Kit.Code again = Kit.code();
        kit.twice = true;
        kit.name("more");
        for (int i = 0; i < 260; i++) {
            code.of(2, kit.number(1000 + i)).op(20);
            again.of(2, want.number(1000 + i)).op(20);
        }
        code.op(1, 0).op(3).of(44, kit.member("Far", "go", "NAN")).op(20).op(46);
        again.op(1, 0).op(3).of(44, want.member("Far", "go", "NAN")).op(20).op(46);
        kit.own(kit.member("F", "m", "V"), 0, 2, code.bytes());
        want.own(m, 0, 2, again.bytes());
        SourceBack x = new SourceBack();
        Due.same("take", Kit.take(x, kit.bytes()), 0);
        Due.same("the made one", Kit.bytes(x, 0, 1), want.bytes());
        Due.same("made again", x.member(0, 0, 9), 2);
    }

    /** A number that is the first entry of a pool is found there. */
    private static void firstEntry() {
        // 1 the number 1000, 2 F, 3 m, 4 :V, 5 F.m.
        int[] bytes = {0xB0, 7, 0xF1, 0x1E, 0, 1, 0, 5, 2, 0, 0, 0, 0, 0, 0, 3, 0xE8, 1, 1, 'F', 1, 1, 'm', 3, 0, 'V', 5, 0, 2, 0, 3,
            0, 4, 0, 2, 0, 0, 0, 1, 0, 5, 0, 0, 0, 1, 46};
        SourceBack x = new SourceBack();
        for (int b : bytes) {
            x.feed(b, 1);
        }
        Due.same("take", x.take(), 0);
        Due.same("edit", Kit.edit(x, 0, 0, "void m() { drop 1000; }"), 0);
        Due.same("entries", x.file(0, 1), 5);
        Due.same("its number", x.byteAt(0, 0, x.file(0, 4) - 3), 1);
    }

    /** "-2 if the file with it breaks a rule of 16 to 23" */
    private static void ruleOfRounds() {
        String[] broken = {"number a; drop a;", "array a; drop a;", "number a; a += 1;", "number a; a += 1000;",
            "number a; if (n == 0) { a = 1; } drop a;", "number a; while (n == 0) { a = 1; } drop a;",
            "number a; loop { drop a; a = 1; }", "number a; b: { if (n == 0) { break b; } a = 1; } drop a;",
            "number a; switch (n) { case 1: { a = 1; } default: { } } n = a;", "array a; if (a == none) { }"};
        String[] kept = {"number a; a = 1; drop a;", "number a; end; drop a;", "number a; loop { } drop a;", "number a; array b;",
            "number a; if (n == 0) { a = 1; } else { a = 2; } drop a;", "number a; if (n == 0) { end; } else { a = 2; } drop a;",
            "number a; loop { a = 1; drop a; }"};
        for (String one : broken) {
            SourceBack x = new SourceBack();
            Kit.take(x, base().own("m", "NV", 1, 0, Kit.code().op(46)).bytes());
            Due.same(one, Kit.judge(x, 0, "void m(number n) {" + one + "}"), 0);
            Due.same(one, Kit.edit(x, 0, 0, "void m(number n) {" + one + "}"), -2);
            Due.same("edits", x.file(0, 6), 0);
            Due.same("bytes of code", x.member(0, 0, 3), 1);
        }
        for (String one : kept) {
            SourceBack x = new SourceBack();
            Kit.take(x, base().own("m", "NV", 1, 0, Kit.code().op(46)).bytes());
            Due.same(one, Kit.edit(x, 0, 0, "void m(number n) {" + one + "}"), 0);
            Due.same("edits", x.file(0, 6), 1);
        }
    }

    /** "or has more than 2000 entries": so many cannot be fed with 512 calls, where nothing is promised any more. */
    private static void entriesAbove() {
        for (int spare = 0; spare <= 2; spare++) {
            Kit kit = new Kit("F");
            kit.own("m", "V", 0, 1, Kit.code().op(46));
            int number = kit.number(1000);
            kit.twice = true;
            for (int i = number; i < 2000 - spare; i++) {
                kit.sign("V");
            }
            SourceBack x = new SourceBack();
            Due.same("take", Kit.take(x, kit.bytes()), 0);
            Due.same("entries", x.file(0, 1), 2000 - spare);
            Due.same("none new", Kit.edit(x, 0, 0, "void m() { drop 1000; }"), 0);
            Due.same("one new", Kit.edit(x, 0, 0, "void m() { drop 2000; }"), spare >= 1 ? 0 : -2);
            Due.same("edits", x.file(0, 6), spare >= 1 ? 2 : 1);
            x.undo(0);
            Due.same("two new", Kit.edit(x, 0, 0, "void m() { drop 2000; drop 3000; }"), spare >= 2 ? 0 : -2);
            Due.same("entries", x.file(0, 1), spare >= 2 ? 2000 : 2000 - spare);
        }
    }

    /** "Files that grow by edits may be longer than a tape": so many bytes need more than 512 calls. */
    private static void longerThanATape() {
        Kit kit = new Kit("F");
        for (int m = 0; m < 17; m++) {
            kit.own("m" + m, "NN", 1, 1, Kit.code().op(1, m).op(45));
        }
        SourceBack x = new SourceBack();
        Due.same("take", Kit.take(x, kit.bytes()), 0);
        int length = kit.bytes().length;
        for (int m = 0; m < 17; m++) {
            // 499 times 8 bytes and 3 and 3: 3998 in the place of 3.
            String text = "number m" + m + "(number n){" + "n+=999;".repeat(499) + "n+=" + m + ";give n;}";
            Due.same("edit " + m, Kit.edit(x, 0, m, text), 0);
            Due.same("bytes", x.file(0, 4), length + 9 + (m + 1) * 3995);
        }
        Due.same("longer than a tape", x.file(0, 4) > 65536, true);
        Due.same("its last byte", x.byteAt(0, 0, x.file(0, 4) - 1), 45);
        Due.same("behind it", x.byteAt(0, 0, x.file(0, 4)), -1);
        for (int side = 0; side < 2; side++) {
            x.call(side, 0, 16, 5, 0);
            x.steps(side, 4000);
            Due.same("the last member", x.state(side, 1), 5 + 499 * 999 + 16);
        }
        Due.same("the made one", x.file(0, 5) > 65536, true);
        Due.same("undo", x.undo(0), true);
        Due.same("bytes", x.file(0, 4), length + 9 + 16 * 3995);
        x.call(0, 0, 16, 5, 0);
        x.steps(0, 4000);
        Due.same("as it was", x.state(0, 1), 16);
    }

    /** "12, behind all others, at its first token: its name, parameters' kinds or result are others" */
    private static void otherHead() {
        String[] heads = {"void k(number n)", "void mm(number n)", "void M(number n)", "void m()", "void m(array n)",
            "void m(number n, number o)", "void m(number n, array o)"};
        for (int blanks = 0; blanks < 3; blanks++) {
            SourceBack x = new SourceBack();
            Kit.take(x, base().own("m", "NV", 1, 0, Kit.code().op(46)).bytes());
            for (String head : heads) {
                Due.same(head, Kit.edit(x, 0, 0, " ".repeat(blanks) + head + "{}"), 12 + 16 * blanks);
            }
            Due.same("number", Kit.edit(x, 0, 0, "\n".repeat(blanks) + "number m(number n){ give n; }"), 12 + 16 * blanks);
            Due.same("array", Kit.edit(x, 0, 0, "\n".repeat(blanks) + "array m(number n){ give none; }"), 12 + 16 * blanks);
            Due.same("edits", x.file(0, 6), 0);
            Due.same("other names of parameters are none", Kit.edit(x, 0, 0, "void m(number other){}"), 0);
        }
        Kit many = new Kit("F").own("m", "NANANANAV", 8, 0, Kit.code().op(46)).own("m", "V", 0, 0, Kit.code().op(46));
        SourceBack y = new SourceBack();
        Kit.take(y, many.bytes());
        String seven = "number a, array b, number c, array d, number e, array f, number g";
        Due.same("eight", Kit.edit(y, 0, 0, "void m(" + seven + ", array h){}"), 0);
        Due.same("the last is another", Kit.edit(y, 0, 0, "void m(" + seven + ", number h){}"), 12);
        Due.same("seven", Kit.edit(y, 0, 0, "void m(" + seven + "){}"), 12);
        Due.same("another member's", Kit.edit(y, 0, 0, "void m(){}"), 12);
        Due.same("that member", Kit.edit(y, 0, 1, "void m(){}"), 0);
    }

    private static void headBehindAllElse() {
        SourceBack x = new SourceBack();
        Kit.take(x, base().own("m", "NV", 1, 0, Kit.code().op(46)).bytes());
        Due.same("1", Kit.edit(x, 0, 0, "void k(){} x"), 1 + 16 * 11);
        Due.same("3", Kit.edit(x, 0, 0, "void k(){ x = 1; }"), 3 + 16 * 10);
        Due.same("10", Kit.edit(x, 0, 0, "number m(number n){ }"), 10 + 16 * 20);
        // But ahead of -2.
        Due.same("12 ahead of -2", Kit.edit(x, 0, 0, "void k(){ number a; drop a; }"), 12);
    }

    /** "What throws or is refused changes nothing but the tape." */
    private static void nothingChanged() {
        byte[] bytes = base().own("m", "NV", 1, 0, Kit.code().op(46)).bytes();
        SourceBack x = new SourceBack();
        Kit.take(x, bytes);
        x.call(0, 0, 0, 1, 2);
        x.call(1, 0, 0, 1, 2);
        String[] texts = {"", "void", "void k(number n){}", "void m(number n){ number a; drop a; }", "void m(number n){ n = 5000; } x"};
        for (String text : texts) {
            Due.same(text, Kit.edit(x, 0, 0, text) == 0, false);
        }
        int[][] none = {{0, 1}, {0, -1}, {1, 0}, {-1, 0}, {16, 0}, {0, Integer.MAX_VALUE}, {Integer.MIN_VALUE, 0}};
        for (int[] n : none) {
            Due.same("edit(" + n[0] + ", " + n[1] + ")", Kit.edit(x, n[0], n[1], "void m(number n){}"), -1);
        }
        Due.same("bytes", Kit.bytes(x, 0, 0), bytes);
        Due.same("edits", x.file(0, 6), 0);
        Due.same("entries", x.file(0, 1), 7);
        Due.same("a call runs", x.state(0, 0), 1);
        Due.same("a call runs", x.state(1, 0), 1);
        Due.same("nothing to undo", x.undo(0), false);
        Due.same("a call runs", x.state(0, 0), 1);
    }

    private static String giving(int n) {
        return "number m() { give " + n + "; }";
    }

    private static int given(SourceBack x, int f) {
        x.settle();
        x.call(0, f, 0, 0, 0);
        x.steps(0, 9);
        return (int) x.state(0, 1);
    }

    /** "ahead of its latest edit that was not undone (the last eight can be)" */
    private static void eightUndone() {
        SourceBack x = new SourceBack();
        Kit.take(x, new Kit("F").own("m", "N", 0, 1, Kit.code().op(1, 0).op(45)).bytes());
        Due.same("nothing to undo", x.undo(0), false);
        for (int n = 1; n <= 8; n++) {
            Due.same("edit", Kit.edit(x, 0, 0, giving(n)), 0);
            Due.same("edits", x.file(0, 6), n);
        }
        for (int n = 7; n >= 0; n--) {
            Due.same("undo", x.undo(0), true);
            Due.same("given", given(x, 0), n);
            Due.same("edits", x.file(0, 6), n);
        }
        Due.same("all eight are undone", x.undo(0), false);
        for (int n = 1; n <= 9; n++) {
            Kit.edit(x, 0, 0, giving(n));
        }
        Due.same("edits of nine", x.file(0, 6), 8);
        for (int n = 8; n >= 1; n--) {
            Due.same("undo", x.undo(0), true);
            Due.same("given", given(x, 0), n);
        }
        Due.same("the ninth stays", x.undo(0), false);
        Due.same("given", given(x, 0), 1);
        // What was undone is gone: an edit behind it is the latest.
        Kit.edit(x, 0, 0, giving(20));
        Kit.edit(x, 0, 0, giving(21));
        x.undo(0);
        Kit.edit(x, 0, 0, giving(22));
        Due.same("edits", x.file(0, 6), 2);
        x.undo(0);
        Due.same("given", given(x, 0), 20);
        x.undo(0);
        Due.same("given", given(x, 0), 1);
    }

    /** Each file has its own eight. */
    private static void undoneByFile() {
        SourceBack x = new SourceBack();
        for (int f = 0; f < 16; f++) {
            Kit.take(x, new Kit("F" + f).own("m", "N", 0, 1, Kit.code().op(1, f).op(45)).bytes());
        }
        Kit.edit(x, 0, 0, giving(50));
        Kit.edit(x, 15, 0, giving(65));
        Kit.edit(x, 15, 0, giving(66));
        Due.same("file 1", x.undo(1), false);
        Due.same("file 0", x.undo(0), true);
        Due.same("file 0", x.undo(0), false);
        Due.same("edits of file 15", x.file(15, 6), 2);
        Due.same("file 15", given(x, 15), 66);
        Due.same("file 15", x.undo(15), true);
        Due.same("file 15", given(x, 15), 65);
        Due.same("file 0", given(x, 0), 0);
        for (int n = 71; n <= 79; n++) {
            Due.same("edit", Kit.edit(x, 15, 0, giving(n)), 0);
        }
        for (int n = 78; n >= 71; n--) {
            Due.same("undo", x.undo(15), true);
            Due.same("file 15", given(x, 15), n);
        }
        Due.same("nothing to undo", x.undo(15), false);
        int[] none = {-1, 16, Integer.MAX_VALUE, Integer.MIN_VALUE};
        for (int f : none) {
            Due.same("undo(" + f + ")", x.undo(f), false);
        }
    }

    /** "The member of file g with the name and parameters' kinds of member m of file f; NONE." */
    private static void pairs() {
        Kit.Code fails = Kit.code().op(1, 0).op(47);
        Kit f = new Kit("F").own("m", "V", 0, 1, fails).own("m", "NV", 1, 1, fails).own("k", "ANV", 2, 1, fails)
            .own("only", "V", 0, 1, fails).own("z", "NANNANNAV", 8, 1, fails);
        Kit g = new Kit("G").own("z", "NANNANNAN", 8, 1, fails).own("m", "AV", 1, 1, fails).own("k", "ANA", 2, 1, fails)
            .own("m", "NN", 1, 1, fails).own("M", "V", 0, 1, fails).own("k", "NAV", 2, 1, fails).own("mm", "V", 0, 1, fails);
        SourceBack x = new SourceBack();
        Kit.take(x, f.bytes());
        Kit.take(x, g.bytes());
        Kit.take(x, new Kit("H").bytes());
        int[] there = {-1, 3, 2, -1, 0};
        for (int m = 0; m < there.length; m++) {
            Due.same("pair(0, " + m + ", 1)", x.pair(0, m, 1), there[m]);
            Due.same("alike(0, " + m + ", 1)", x.alike(0, m, 1), there[m] < 0 ? -1 : 2);
            Due.same("in itself", x.pair(0, m, 0), m);
            Due.same("in a file without members", x.pair(0, m, 2), -1);
            Due.same("in a file without members", x.alike(0, m, 2), -1);
        }
        int[] back = {4, -1, 2, 1, -1, -1, -1};
        for (int m = 0; m < back.length; m++) {
            Due.same("pair(1, " + m + ", 0)", x.pair(1, m, 0), back[m]);
        }
        int[] wrong = {-1, 3, 16, Integer.MAX_VALUE, Integer.MIN_VALUE};
        for (int w : wrong) {
            Due.same("pair(" + w + ", 0, 0)", x.pair(w, 0, 0), -1);
            Due.same("pair(0, 0, " + w + ")", x.pair(0, 0, w), -1);
            Due.same("pair(0, m, 0)", x.pair(0, w == 3 ? 5 : w, 0), -1);
            Due.same("alike(" + w + ", 0, 0)", x.alike(w, 0, 0), -1);
            Due.same("alike(0, 0, " + w + ")", x.alike(0, 0, w), -1);
            Due.same("alike(0, m, 0)", x.alike(0, w == 3 ? 5 : w, 0), -1);
        }
    }

    private static int alike(Kit.Code a, Kit.Code b, String name) {
        SourceBack x = new SourceBack();
        Kit f = new Kit("F");
        Kit g = new Kit("G");
        // The same entries with other numbers: 1000, 2000, O.f N, O.f A, O.h N:N; each its own at last.
        int[] first = {f.number(1000), f.number(2000), f.field("O", "f", 'N'), f.field("O", "g", 'A'), f.member("O", "h", "NN")};
        int[] second = new int[5];
        second[4] = g.member("O", "h", "NN");
        second[3] = g.field("O", "g", 'A');
        second[2] = g.field("O", "f", 'N');
        second[1] = g.number(2000);
        second[0] = g.number(1000);
        f.own(f.member("F", name, "NV"), 3, 3, asking(a, first));
        g.own(g.member("G", name, "NV"), 2, 9, asking(b, second));
        Due.same("take", Kit.take(x, f.bytes()), 0);
        Due.same("take", Kit.take(x, g.bytes()), 1);
        Due.same("from the other side", x.alike(1, 0, 0), x.alike(0, 0, 1));
        return x.alike(0, 0, 1);
    }

    private static int alike(String first, String second, Kit.Code a, Kit.Code b) {
        SourceBack x = new SourceBack();
        Kit.take(x, new Kit("F").own("m", first, 0, 1, a).bytes());
        Kit.take(x, new Kit("G").own("m", second, 0, 1, b).bytes());
        return x.alike(0, 0, 1);
    }

    /** Entries that a code asks for as 1 to 5 are those of this file. */
    private static byte[] asking(Kit.Code code, int[] entries) {
        byte[] bytes = code.bytes();
        ByteArrayOutputStream all = new ByteArrayOutputStream();
        for (int p = 0; p < bytes.length; p++) {
            int op = bytes[p];
            all.write(op);
            int size = op == 1 || op == 4 || op == 5 ? 2 : op == 6 || op >= 28 && op <= 42 ? 3 : 1;
            if (op == 2 || op == 7 || op == 8 || op == 44) {
                int k = entries[bytes[p + 2] - 1];
                all.write(k >> 8);
                all.write(k);
                p += 2;
            }
            for (int i = 1; i < size; i++) {
                p++;
                all.write(bytes[p]);
            }
        }
        return all.toByteArray();
    }

    /** An act that is not reached, in two members of the same text: alike by all that its entry says, or not. */
    private static void unreached(String what, int op, String first, String second) {
        SourceBack x = new SourceBack();
        String[] entries = {first, second};
        for (int i = 0; i < 2; i++) {
            Kit kit = new Kit("F" + i);
            String[] parts = entries[i].split(" ");
            for (int k = 0; k < 300 * i; k++) {
                kit.sign("V");
                kit.twice = true;
            }
            kit.twice = false;
            int entry = op == 2 ? kit.number(Long.parseLong(parts[0])) : op == 44 ? kit.member(parts[0], parts[1], parts[2])
                : kit.field(parts[0], parts[1], parts[2].charAt(0));
            kit.own("m", "V", 0, 0, Kit.code().op(46).of(op, entry));
            Due.same("take", Kit.take(x, kit.bytes()), i);
        }
        Due.same(what, x.alike(0, 0, 1), first.equals(second) ? 2 : 1);
    }

    /** "with entries alike": in files where they have other numbers, above 255, too. */
    private static void entriesAlike() {
        unreached("a number", 2, "5000", "5000");
        unreached("another number", 2, "5000", "5001");
        for (int op = 7; op <= 8; op++) {
            unreached("a field", op, "G f N", "G f N");
            unreached("a field of A", op, "G f A", "G f A");
            unreached("another owner", op, "G f N", "H f N");
            unreached("another name", op, "G f N", "G g N");
            unreached("a longer name", op, "G f N", "G ff N");
            unreached("another kind", op, "G f N", "G f A");
        }
        unreached("a member", 44, "G h NAN", "G h NAN");
        unreached("another owner", 44, "G h NAN", "H h NAN");
        unreached("another name", 44, "G h NAN", "G k NAN");
        unreached("other kinds", 44, "G h NAN", "G h NNN");
        unreached("other kinds", 44, "G h NAN", "G h ANN");
        unreached("fewer parameters", 44, "G h NNN", "G h NN");
        unreached("another result", 44, "G h NAN", "G h NAA");
        unreached("no result", 44, "G h NAN", "G h NAV");
        unreached("no parameters", 44, "G h V", "G h V");
    }

    /** "2 they have the same acts with entries alike, 1 the same text, 0 neither" */
    private static void alikeOrNot() {
        Kit.Code all = Kit.code().of(2, 1).of(8, 3).of(7, 4).op(20).op(4, 0).of(44, 5).op(20).op(46);
        Due.same("entries alike", alike(all, all, "m"), 2);
        Due.same("another number", alike(Kit.code().of(2, 1).op(20).op(46), Kit.code().of(2, 2).op(20).op(46), "m"), 0);
        Due.same("another field", alike(Kit.code().of(7, 3).op(20).op(46), Kit.code().of(7, 4).op(20).op(46), "m"), 0);
        Due.same("another local", alike(Kit.code().op(1, 1).op(5, 0).op(46), Kit.code().op(1, 1).op(5, 1).op(46), "m"), 0);
        Due.same("another small number", alike(Kit.code().op(1, 1).op(20).op(46), Kit.code().op(1, 2).op(20).op(46), "m"), 0);
        Due.same("another step", alike(Kit.code().op(6, 0, 1).op(46), Kit.code().op(6, 0, 2).op(46), "m"), 0);
        Due.same("another op", alike(Kit.code().op(4, 0).op(19).op(20).op(46), Kit.code().op(4, 0).op(24).op(20).op(46), "m"), 0);
        // Acts that no text tells: not the same acts, the same text.
        Due.same("one that does nothing", alike(Kit.code().op(0).op(46), Kit.code().op(46), "m"), 1);
        Due.same("one that is not reached", alike(Kit.code().op(46), Kit.code().op(46).op(46), "m"), 1);
        Due.same("another that is not reached", alike(Kit.code().op(46).op(0), Kit.code().op(46).op(9), "m"), 1);
        Due.same("another goal, the same text", alike(Kit.code().op(4, 0).go(34, "5").op(0).op(46),
            Kit.code().op(4, 0).go(34, "6").op(0).op(46), "m"), 1);
        Due.same("another goal, another text", alike(Kit.code().op(4, 0).go(34, "5").op(6, 0, 1).op(46),
            Kit.code().op(4, 0).go(34, "8").op(6, 0, 1).op(46), "m"), 0);
        // Without a text there is no same text.
        Due.same("no text, the same acts", alike(Kit.code().op(0).op(46), Kit.code().op(0).op(46), "if"), 2);
        Due.same("no text, other acts", alike(Kit.code().op(0).op(46), Kit.code().op(46), "if"), 0);
        Kit.Code deep = Kit.code().op(4, 0);
        for (int i = 0; i < 31; i++) {
            deep.op(19);
        }
        Due.same("a text of one only", alike(deep.op(20).op(46), Kit.code().op(46), "m"), 0);
        // Texts that differ by their first sign, by their last but one, and by their length.
        Due.same("another result", alike("N", "A", Kit.code().op(1, 1).op(47).op(0), Kit.code().op(1, 1).op(47)), 0);
        Due.same("the same result", alike("N", "N", Kit.code().op(1, 1).op(47).op(0), Kit.code().op(1, 1).op(47)), 1);
        Due.same("another result, the same acts", alike("N", "A", Kit.code().op(1, 1).op(47), Kit.code().op(1, 1).op(47)), 2);
        Due.same("another number at the end", alike("N", "N", Kit.code().op(1, 1).op(47), Kit.code().op(1, 2).op(47)), 0);
        Due.same("a longer one", alike("N", "N", Kit.code().op(1, 1).op(47), Kit.code().op(1, 11).op(47)), 0);
    }
}
