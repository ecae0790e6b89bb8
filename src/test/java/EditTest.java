/** Promises 13 to 16: edit, undo, pair and alike; and how texts are made to code (Terms 10). */
public final class EditTest {
    public static void main(String[] args) {
        making();
        edited();
        refused();
        undone();
        compared();
        Due.end();
    }

    private static Kit empty() {
        Kit kit = new Kit("F");
        kit.ownField("f", 'N');
        kit.ownField("g", 'A');
        kit.member("G", "h", "NAN");
        kit.number(1000);
        return kit;
    }

    /** A text in the place of a member NAN; the code, locals and pile that come of it. */
    private static void made(String statements, int locals, int pile, Kit.Code code) {
        SourceBack x = new SourceBack();
        Kit.take(x, empty().own("m", "NAN", 2, 1, Kit.code().op(4, 0).op(45)).bytes());
        String text = "number m(number n, array r) {" + statements + "}";
        Due.same(text, Kit.edit(x, 0, 0, text), 0);
        Due.same(text, Kit.bytes(x, 0, 0), empty().own("m", "NAN", locals, pile, code).bytes());
    }

    private static void making() {
        Kit kit = empty();
        int f = kit.field("F", "f", 'N');
        int g = kit.field("F", "g", 'A');
        int h = kit.member("G", "h", "NAN");
        int big = kit.number(1000);
        made("give n;", 2, 1, Kit.code().op(4, 0).op(45));
        made("give -128;", 2, 1, Kit.code().op(1, 128).op(45));
        made("give 127;", 2, 1, Kit.code().op(1, 127).op(45));
        made("give 1000;", 2, 1, Kit.code().of(2, big).op(45));
        made("number a, b; b = n; give b;", 4, 1, Kit.code().op(4, 0).op(5, 3).op(4, 3).op(45));
        made("n += 127; n += -128; n += 1000; give n;", 2, 2, Kit.code().op(6, 0, 127).op(6, 0, 128).op(4, 0).of(2, big)
            .op(9).op(5, 0).op(4, 0).op(45));
        made("F.f = F.f; F.g = none; give 0;", 2, 1, Kit.code().of(7, f).of(8, f).op(3).of(8, g).op(1, 0).op(45));
        made("r[n] = r[0]; drop make(size(r)); fail G.h(n, r);", 2, 4, Kit.code().op(4, 1).op(4, 0).op(4, 1).op(1, 0).op(25)
            .op(26).op(4, 1).op(27).op(24).op(20).op(4, 0).op(4, 1).of(44, h).op(47));
        made("give -n + n - n * n / n % n & n | n ^ n << n >> n;", 2, 4, Kit.code().op(4, 0).op(19).op(4, 0).op(9).op(4, 0)
            .op(4, 0).op(11).op(4, 0).op(12).op(4, 0).op(13).op(10).op(4, 0).op(14).op(4, 0).op(4, 0).op(4, 0).op(17)
            .op(4, 0).op(18).op(16).op(15).op(45));
        int[] opposite = {1, 0, 5, 4, 3, 2};
        String[] signs = {"==", "!=", "<", "<=", ">", ">="};
        for (int i = 0; i < 6; i++) {
            int other = opposite[i];
            made("if (n " + signs[i] + " 1) { n = 2; } give n;", 2, 2, Kit.code().op(4, 0).op(1, 1).go(28 + other, "a")
                .op(1, 2).op(5, 0).at("a").op(4, 0).op(45));
            made("if (n " + signs[i] + " (-0)) { n = 2; } give n;", 2, 1, Kit.code().op(4, 0).go(34 + other, "a").op(1, 2)
                .op(5, 0).at("a").op(4, 0).op(45));
        }
        made("if (n == - 0) { } give n;", 2, 2, Kit.code().op(4, 0).op(1, 0).op(19).go(29, "a").at("a").op(4, 0).op(45));
        made("if (r == none) { } if (r != (none)) { } give n;", 2, 1, Kit.code().op(4, 1).go(41, "a").at("a").op(4, 1)
            .go(40, "b").at("b").op(4, 0).op(45));
        shapes();
    }

    private static void shapes() {
        made("if (n == 0) { n = 1; } else { n = 2; } give n;", 2, 1, Kit.code().op(4, 0).go(35, "a").op(1, 1).op(5, 0)
            .go(42, "x").at("a").op(1, 2).op(5, 0).at("x").op(4, 0).op(45));
        made("if (n == 0) { give 1; } else { n = 2; } give n;", 2, 1, Kit.code().op(4, 0).go(35, "a").op(1, 1).op(45)
            .at("a").op(1, 2).op(5, 0).op(4, 0).op(45));
        made("if (n == 0) { n = 1; } else { } give n;", 2, 1, Kit.code().op(4, 0).go(35, "a").op(1, 1).op(5, 0).at("a")
            .op(4, 0).op(45));
        made("if (n == 0) { } else { n = 2; } give n;", 2, 1, Kit.code().op(4, 0).go(35, "a").go(42, "x").at("a").op(1, 2)
            .op(5, 0).at("x").op(4, 0).op(45));
        made("loop { n = 1; }", 2, 1, Kit.code().at("h").op(1, 1).op(5, 0).go(42, "h"));
        made("loop { give n; }", 2, 1, Kit.code().op(4, 0).op(45));
        made("while (n > 0) { n += -1; } give n;", 2, 1, Kit.code().at("h").op(4, 0).go(37, "x").op(6, 0, 255).go(42, "h")
            .at("x").op(4, 0).op(45));
        made("while (n > 0) { give 1; } give n;", 2, 1, Kit.code().op(4, 0).go(37, "x").op(1, 1).op(45).at("x").op(4, 0).op(45));
        made("a: while (n > 0) { b: { if (n == 5) { break b; } next a; } n = 1; } give n;", 2, 2, Kit.code().at("a").op(4, 0)
            .go(37, "x").op(4, 0).op(1, 5).go(29, "i").go(42, "b").at("i").go(42, "a").at("b").op(1, 1).op(5, 0).go(42, "a")
            .at("x").op(4, 0).op(45));
        made("switch (n) { case 7, -3: { n = 1; } case 0: { give 2; } case 5: { } default: { n = 4; } } give n;", 2, 1,
            Kit.code().op(4, 0).choose("d -3:a 0:b 5:c 7:a").at("a").op(1, 1).op(5, 0).go(42, "x").at("b").op(1, 2).op(45)
            .at("c").go(42, "x").at("d").op(1, 4).op(5, 0).at("x").op(4, 0).op(45));
        made("switch (n) { default: { } } give n;", 2, 1, Kit.code().op(4, 0).choose("d").at("d").op(4, 0).op(45));
        made("give n; n = 1; give n;", 2, 1, Kit.code().op(4, 0).op(45).op(1, 1).op(5, 0).op(4, 0).op(45));
        SourceBack x = new SourceBack();
        Kit.take(x, new Kit("F").own("v", "V", 0, 0, Kit.code().op(46).op(0)).bytes());
        Due.same("an end that is reached", Kit.edit(x, 0, 0, "void v() { }"), 0);
        Due.same("46", Kit.bytes(x, 0, 0), new Kit("F").own("v", "V", 0, 0, Kit.code().op(46)).bytes());
        Due.same("an end that is not", Kit.edit(x, 0, 0, "void v() { loop { } }"), 0);
        Due.same("42", Kit.bytes(x, 0, 0), new Kit("F").own("v", "V", 0, 0, Kit.code().at("h").go(42, "h")).bytes());
    }

    private static void edited() {
        Kit kit = empty();
        kit.own("a", "NN", 1, 1, Kit.code().op(4, 0).op(45));
        kit.own("m", "V", 3, 3, Kit.code().op(0).op(46));
        kit.own("z", "NN", 1, 1, Kit.code().of(2, kit.number(1000)).op(45));
        SourceBack x = new SourceBack();
        Kit.take(x, kit.bytes());
        String before = Kit.text(x, 0, 2);
        Due.same("edit", Kit.edit(x, 0, 1, "void m() { number a; a = 5000; a = 1000; a = -200; a = 5000; }"), 0);
        Kit want = empty();
        int a = want.member("F", "a", "NN");
        int m = want.member("F", "m", "V");
        int z = want.member("F", "z", "NN");
        int first = want.number(5000);
        int second = want.number(-200);
        want.own(a, 1, 1, Kit.code().op(4, 0).op(45).bytes());
        want.own(m, 1, 1, Kit.code().of(2, first).op(5, 0).of(2, want.number(1000)).op(5, 0).of(2, second).op(5, 0)
            .of(2, first).op(5, 0).op(46).bytes());
        want.own(z, 1, 1, Kit.code().of(2, want.number(1000)).op(45).bytes());
        Due.same("the file", Kit.bytes(x, 0, 0), want.bytes());
        Due.same("entries", x.file(0, 1), kit.bytes()[7] + 2);
        Due.same("edits", x.file(0, 6), 1);
        Due.same("its text", Kit.text(x, 0, 1),
            "void m() {\n  number n0;\n  n0 = 5000;\n  n0 = 1000;\n  n0 = -200;\n  n0 = 5000;\n  end;\n}\n");
        Due.same("another's text", Kit.text(x, 0, 2), before);
        Due.same("the made one", x.file(0, 5) > 0, true);
        // The least of entries that are alike; the file's own field ahead of the pool's.
        Kit twice = new Kit("F");
        twice.twice = true;
        twice.number(1000);
        int least = twice.number(777);
        twice.number(777);
        twice.field("F", "f", 'A');
        int own = twice.ownField("f", 'N');
        twice.own("m", "V", 0, 0, Kit.code().op(46));
        SourceBack y = new SourceBack();
        Kit.take(y, twice.bytes());
        int code = Kit.bytes(y, 0, 0).length - 1;
        Due.same("edit", Kit.edit(y, 0, 0, "void m() { F.f = 777; }"), 0);
        Due.same("the least", y.byteAt(0, 0, code + 2), least);
        Due.same("its own", y.byteAt(0, 0, code + 5), own);
    }

    private static void refused() {
        SourceBack x = new SourceBack();
        byte[] bytes = empty().own("m", "NAN", 2, 1, Kit.code().op(4, 0).op(45)).bytes();
        Kit.take(x, bytes);
        x.call(0, 0, 0, 1, 2);
        Due.same("an error", Kit.edit(x, 0, 0, "number m(number n, array r) { give x; }"), 3 + 16 * 35);
        Due.same("another name", Kit.edit(x, 0, 0, " number k(number n, array r) { give n; }"), 12 + 16);
        Due.same("another name", Kit.edit(x, 0, 0, "number mm(number n, array r) { give n; }"), 12);
        Due.same("other parameters", Kit.edit(x, 0, 0, "number m(number n, number r) { give n; }"), 12);
        Due.same("fewer parameters", Kit.edit(x, 0, 0, "number m(number n) { give n; }"), 12);
        Due.same("another result", Kit.edit(x, 0, 0, "\n\nvoid m(number n, array r) { }"), 12 + 32);
        Due.same("12 is behind all others", Kit.edit(x, 0, 0, "void k() { } x"), 1 + 16 * 13);
        Due.same("an unset variable", Kit.edit(x, 0, 0, "number m(number n, array r) { number a; give a; }"), -2);
        Due.same("one that is set on one way", Kit.edit(x, 0, 0,
            "number m(number n, array r) { number a; if (n == 0) { a = 1; } give a; }"), -2);
        Due.same("no such member", Kit.edit(x, 0, 1, "void m() { }"), -1);
        Due.same("the tape is empty", x.count(0), 0);
        Due.same("no such file", Kit.edit(x, 1, 0, "void m() { }"), -1);
        Due.same("no such member", Kit.edit(x, 0, -1, "void m() { }"), -1);
        Due.same("the tape is empty", x.count(0), 0);
        Due.same("as it was", Kit.bytes(x, 0, 0), bytes);
        Due.same("edits", x.file(0, 6), 0);
        Due.same("the call runs", x.state(0, 0), 1);
        Due.same("an edit", Kit.edit(x, 0, 0, "number m(number n, array r) { give 5; }"), 0);
        Due.same("no call", x.state(0, 0), 0);
        Due.same("no arrays", x.count(2), 0);
    }

    private static void undone() {
        SourceBack x = new SourceBack();
        byte[] bytes = new Kit("F").own("m", "N", 0, 1, Kit.code().op(1, 0).op(45)).bytes();
        Kit.take(x, bytes);
        Due.same("nothing to undo", x.undo(0), false);
        Due.same("no such file", x.undo(1), false);
        Due.same("no such file", x.undo(-1), false);
        for (int i = 1; i <= 10; i++) {
            Due.same("edit " + i, Kit.edit(x, 0, 0, "number m() { give " + i + "; }"), 0);
            Due.same("edits", x.file(0, 6), Math.min(8, i));
        }
        x.call(0, 0, 0, 0, 0);
        for (int i = 9; i >= 2; i--) {
            Due.same("undo to " + i, x.undo(0), true);
            Due.same("edits", x.file(0, 6), i - 2);
            Due.same("text " + i, Kit.text(x, 0, 0), "number m() {\n  give " + i + ";\n}\n");
        }
        Due.same("no call", x.state(0, 0), 0);
        Due.same("no more than eight", x.undo(0), false);
        Due.same("edit", Kit.edit(x, 0, 0, "number m() { give 1000; }"), 0);
        Due.same("bytes", x.file(0, 4), bytes.length + 10);
        Due.same("undo", x.undo(0), true);
        bytes[bytes.length - 2] = 2;
        Due.same("the bytes again", Kit.bytes(x, 0, 0), bytes);
    }

    private static void compared() {
        SourceBack x = new SourceBack();
        Kit f = new Kit("F").own("a", "NN", 1, 1, Kit.code().op(4, 0).op(45));
        int number = f.number(5000);
        f.own("b", "NN", 1, 1, Kit.code().of(2, number).op(45));
        f.own("c", "NN", 1, 1, Kit.code().op(4, 0).op(45));
        f.own("d", "V", 1, 1, Kit.code().at("h").op(0).go(42, "h"));
        f.own("size", "V", 1, 1, Kit.code().op(46));
        f.own("e", "AV", 1, 1, Kit.code().op(46));
        int call = f.member("F", "d", "V");
        f.own("k", "V", 0, 0, Kit.code().of(44, call).op(46));
        Kit g = new Kit("G").own("c", "NN", 1, 1, Kit.code().op(1, 0).op(45));
        g.number(6000);
        g.own("b", "NN", 1, 9, Kit.code().of(2, g.number(5000)).op(45));
        g.own("a", "NN", 9, 1, Kit.code().op(4, 0).op(45));
        g.own("d", "V", 1, 1, Kit.code().at("h").go(42, "h"));
        g.own("size", "V", 1, 1, Kit.code().op(0).op(46));
        g.own("e", "NV", 1, 1, Kit.code().op(46));
        g.own("k", "V", 0, 0, Kit.code().of(44, g.member("G", "d", "V")).op(46));
        Kit.take(x, f.bytes());
        Kit.take(x, g.bytes());
        int[] pairs = {2, 1, 0, 3, 4, -1, 6};
        int[] alike = {2, 2, 0, 1, 0, -1, 0};
        for (int m = 0; m < pairs.length; m++) {
            Due.same("pair " + m, x.pair(0, m, 1), pairs[m]);
            Due.same("alike " + m, x.alike(0, m, 1), alike[m]);
            Due.same("with itself", x.pair(0, m, 0), m);
            Due.same("with itself", x.alike(0, m, 0), 2);
        }
        int[][] none = {{0, 7, 1}, {0, -1, 1}, {2, 0, 1}, {0, 0, 2}, {0, 0, -1}, {-1, 0, 0}};
        for (int[] n : none) {
            Due.same("no pair", x.pair(n[0], n[1], n[2]), -1);
            Due.same("not alike", x.alike(n[0], n[1], n[2]), -1);
        }
        // Another result is no other member.
        Kit.take(x, new Kit("H").own("a", "NV", 1, 1, Kit.code().op(46)).bytes());
        Due.same("pair", x.pair(0, 0, 2), 0);
        Due.same("alike", x.alike(0, 0, 2), 0);
    }
}
