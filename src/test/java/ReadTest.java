/** Promises 4 to 10: what is told of a file, its bytes, entries, members, acts, kinds and blocks. */
public final class ReadTest {
    public static void main(String[] args) {
        files();
        entries();
        members();
        actsAndKinds();
        blocks();
        knotted();
        Due.end();
    }

    private static Kit sample() {
        Kit kit = new Kit("House");
        kit.version = 7;
        kit.ownField("f", 'N');
        kit.ownField("g", 'A');
        kit.number(-5000000000L);
        kit.own("m", "NAN", 4, 9, Kit.code().op(4, 0).op(45));
        kit.own("v", "V", 0, 0, Kit.code().op(46));
        return kit;
    }

    private static void files() {
        SourceBack x = new SourceBack();
        byte[] bytes = sample().bytes();
        Kit.take(x, bytes);
        Due.same("version", x.file(0, 0), 7);
        Due.same("entries", x.file(0, 1), 12);
        Due.same("fields", x.file(0, 2), 2);
        Due.same("members", x.file(0, 3), 2);
        Due.same("bytes", x.file(0, 4), bytes.length);
        Due.same("edits", x.file(0, 6), 0);
        Due.same("file(0, 7)", x.file(0, 7), -1);
        Due.same("file(0, -1)", x.file(0, -1), -1);
        Due.same("file(1, 0)", x.file(1, 0), -1);
        Due.same("file(-1, 0)", x.file(-1, 0), -1);
        Due.same("side 0", Kit.bytes(x, 0, 0), bytes);
        Due.same("byteAt(0, 0, 0)", x.byteAt(0, 0, 0), 0xB0);
        Due.same("byteAt(0, 0, -1)", x.byteAt(0, 0, -1), -1);
        Due.same("byteAt behind", x.byteAt(0, 0, bytes.length), -1);
        Due.same("byteAt(0, 2, 0)", x.byteAt(0, 2, 0), -1);
        Due.same("byteAt(0, -1, 0)", x.byteAt(0, -1, 0), -1);
        Due.same("byteAt(1, 0, 0)", x.byteAt(1, 0, 0), -1);
        // The made one has no number, and the entries in its own order.
        Kit made = new Kit("House");
        made.version = 7;
        made.ownField("f", 'N');
        made.ownField("g", 'A');
        int m = made.member("House", "m", "NAN");
        int v = made.member("House", "v", "V");
        made.own(m, 2, 1, Kit.code().op(4, 0).op(45).bytes());
        made.own(v, 0, 0, Kit.code().op(46).bytes());
        Due.same("bytes of the made one", x.file(0, 5), made.bytes().length);
        Due.same("side 1", Kit.bytes(x, 0, 1), made.bytes());
        Due.same("byteAt behind the made one", x.byteAt(0, 1, made.bytes().length), -1);
        // A member without a text: its name is a word of the language.
        Kit.take(x, new Kit("G").own("if", "V", 0, 0, Kit.code().op(46)).bytes());
        Due.same("no made one", x.file(1, 5), -1);
        Due.same("no made byte", x.byteAt(1, 1, 0), -1);
        Kit.take(x, new Kit("H").bytes());
        Due.same("a made one without members", x.file(2, 5), 17);
        Due.same("files with a made one", x.count(5), 2);
    }

    private static void entries() {
        SourceBack x = new SourceBack();
        Kit.take(x, sample().bytes());
        // 1 House 2 f 3 House.f 4 g 5 House.g 6 number 7 m 8 NA:N 9 House.m 10 v 11 :V 12 House.v
        int[] tags = {1, 1, 4, 1, 4, 2, 1, 3, 5, 1, 3, 5};
        for (int k = 1; k <= 12; k++) {
            Due.same("tag " + k, x.entry(0, k, 0), tags[k - 1]);
        }
        Due.same("letters", x.entry(0, 1, 1), 5);
        Due.same("letter 0", x.entry(0, 1, 4), 'H');
        Due.same("letter 4", x.entry(0, 1, 8), 'e');
        Due.same("number", x.entry(0, 6, 1), -5000000000L);
        Due.same("parameters", x.entry(0, 8, 1), 2);
        Due.same("result N", x.entry(0, 8, 2), 0);
        Due.same("parameter 0", x.entry(0, 8, 4), 0);
        Due.same("parameter 1", x.entry(0, 8, 5), 1);
        Due.same("no parameters", x.entry(0, 11, 1), 0);
        Due.same("result V", x.entry(0, 11, 2), 2);
        Due.same("owner", x.entry(0, 5, 1), 1);
        Due.same("name", x.entry(0, 5, 2), 4);
        Due.same("kind A", x.entry(0, 5, 3), 1);
        Due.same("kind N", x.entry(0, 3, 3), 0);
        Due.same("owner", x.entry(0, 9, 1), 1);
        Due.same("name", x.entry(0, 9, 2), 7);
        Due.same("sign", x.entry(0, 9, 3), 8);
        int[][] none = {{1, 0, 0}, {0, 0, 0}, {0, 13, 0}, {0, -1, 0}, {0, 1, -1}, {0, 1, 2}, {0, 1, 3}, {0, 1, 9},
            {0, 6, 2}, {0, 6, 4}, {0, 8, 3}, {0, 8, 6}, {0, 11, 4}, {0, 3, 4}, {0, 9, 4},
            {0, 1, Integer.MAX_VALUE}, {0, 1, Integer.MIN_VALUE}, {-1, 1, 0}};
        for (int[] n : none) {
            Due.throwing("entry(" + n[0] + ", " + n[1] + ", " + n[2] + ")", IndexOutOfBoundsException.class,
                () -> x.entry(n[0], n[1], n[2]));
        }
    }

    private static void members() {
        SourceBack x = new SourceBack();
        Kit kit = sample();
        // An unreached act, and two that the text tells in another way.
        kit.own("w", "NN", 2, 3, Kit.code().op(4, 0).go(34, "a").op(1, 1).op(45).at("a").op(1, 2).op(45).op(0));
        Kit.take(x, kit.bytes());
        Due.same("entry", x.member(0, 0, 0), 9);
        Due.same("locals", x.member(0, 0, 1), 4);
        Due.same("pile", x.member(0, 0, 2), 9);
        Due.same("bytes of code", x.member(0, 0, 3), 3);
        Due.same("acts", x.member(0, 0, 4), 2);
        Due.same("reached", x.member(0, 0, 5), 2);
        Due.same("blocks", x.member(0, 0, 6), 1);
        Due.same("knotted", x.member(0, 0, 7), 0);
        Due.same("signs", x.member(0, 0, 8), "number m(number n0, array r1) {\n  give n0;\n}\n".length());
        Due.same("the same acts", x.member(0, 0, 9), 2);
        Due.same("acts of w", x.member(0, 2, 4), 7);
        Due.same("reached of w", x.member(0, 2, 5), 6);
        Due.same("blocks of w", x.member(0, 2, 6), 3);
        // if (n0 == 0) { give 2; } give 1; comes again as if (n0 != 0) { give 1; } give 2;
        Due.same("w again", x.member(0, 2, 9), 0);
        Due.same("member(0, 3, 0)", x.member(0, 3, 0), -1);
        Due.same("member(0, -1, 0)", x.member(0, -1, 0), -1);
        Due.same("member(1, 0, 0)", x.member(1, 0, 0), -1);
        Due.same("member(0, 0, 10)", x.member(0, 0, 10), -1);
        Due.same("member(0, 0, -1)", x.member(0, 0, -1), -1);
        // A loop's code comes again in another order, but with the same text.
        SourceBack z = new SourceBack();
        Kit.take(z, new Kit("F").own("m", "NN", 1, 1, Kit.code().at("h").op(4, 0).go(34, "z").op(6, 0, 255).go(42, "h")
            .at("z").op(4, 0).op(45)).bytes());
        Due.same("the same text", z.member(0, 0, 9), 1);
        // A temporary becomes a local: neither the acts nor the text come again.
        SourceBack y = new SourceBack();
        Kit.take(y, new Kit("F").own("m", "NN", 1, 2, Kit.code().op(4, 0).op(21).op(9).op(45)).bytes());
        Due.same("neither", y.member(0, 0, 9), 0);
        Kit.take(y, new Kit("G").own("size", "NN", 1, 2, Kit.code().op(4, 0).op(45)).bytes());
        Due.same("no text", y.member(1, 0, 8), -1);
        Due.same("not again", y.member(1, 0, 9), -1);
        // A member of its own comes again whatever the others have.
        Kit both = new Kit("H").own("end", "V", 0, 0, Kit.code().op(46));
        both.own("m", "V", 0, 0, Kit.code().op(46));
        Kit.take(y, both.bytes());
        Due.same("by itself", y.member(2, 1, 9), 2);
        Due.same("no made one", y.file(2, 5), -1);
    }

    private static void actsAndKinds() {
        SourceBack x = new SourceBack();
        Kit.Code code = Kit.code().op(4, 0).go(34, "a").op(3).op(5, 2).at("a").op(4, 1).op(4, 0).op(25).op(45).op(0);
        Kit.take(x, new Kit("F").own("m", "NAN", 4, 3, code).bytes());
        int[][] acts = {{0, 4, 1, 0, 0}, {2, 34, 1, 1, 0}, {5, 3, 1, 0, 1}, {6, 5, 1, 1, 1}, {8, 4, 1, 0, 2},
            {10, 4, 1, 1, 2}, {12, 25, 1, 2, 2}, {13, 45, 1, 1, 2}, {14, 0, 0, -1, -1}};
        for (int i = 0; i < acts.length; i++) {
            for (int what = 0; what < 5; what++) {
                Due.same("act " + i + ", " + what, x.act(0, 0, i, what), acts[i][what]);
            }
        }
        Due.same("act(0, 0, 9, 0)", x.act(0, 0, 9, 0), -1);
        Due.same("act(0, 0, -1, 0)", x.act(0, 0, -1, 0), -1);
        Due.same("act(0, 0, 0, 5)", x.act(0, 0, 0, 5), -1);
        Due.same("act(0, 1, 0, 0)", x.act(0, 1, 0, 0), -1);
        Due.same("act(2, 0, 0, 0)", x.act(2, 0, 0, 0), -1);
        Due.same("N", x.kind(0, 0, 0, 0), 1);
        Due.same("A", x.kind(0, 0, 0, 1), 2);
        Due.same("UNSET", x.kind(0, 0, 0, 2), 0);
        Due.same("BOTH", x.kind(0, 0, 4, 2), 3);
        Due.same("UNSET still", x.kind(0, 0, 4, 3), 0);
        Due.same("no local 4", x.kind(0, 0, 0, 4), -1);
        Due.same("value 0 is an array", x.kind(0, 0, 6, -1), 2);
        Due.same("value 1 is a number", x.kind(0, 0, 6, -2), 1);
        Due.same("no value 2", x.kind(0, 0, 6, -3), -1);
        Due.same("no value at all", x.kind(0, 0, 0, Integer.MIN_VALUE), -1);
        Due.same("an unreached act", x.kind(0, 0, 8, 0), -1);
        Due.same("no act", x.kind(0, 0, 9, 0), -1);
        Due.same("no member", x.kind(0, 1, 0, 0), -1);
        Due.same("no file", x.kind(1, 0, 0, 0), -1);
        // Locals beyond the 32nd.
        SourceBack y = new SourceBack();
        Kit.Code far = Kit.code().op(4, 0).op(5, 31).op(4, 0).op(5, 32).op(3).op(5, 59).op(4, 32).op(45);
        Kit.take(y, new Kit("F").own("m", "NN", 60, 1, far).bytes());
        Due.same("local 31", y.kind(0, 0, 7, 31), 1);
        Due.same("local 32", y.kind(0, 0, 7, 32), 1);
        Due.same("local 33", y.kind(0, 0, 7, 33), 0);
        Due.same("local 59", y.kind(0, 0, 7, 59), 2);
    }

    private static void block(SourceBack x, int b, int... want) {
        for (int what = 0; what < want.length; what++) {
            Due.same("block " + b + ", " + what, x.block(0, 0, b, what), want[what]);
        }
        Due.same("block " + b + " has no more ways", x.block(0, 0, b, want.length), -1);
    }

    private static void blocks() {
        SourceBack x = new SourceBack();
        // while (n0 != 0) { switch (n0) .. } give n0;
        Kit.Code code = Kit.code().at("h").op(4, 0).go(34, "z").op(4, 0).choose("d 1:a 3:d 5:b 7:a")
            .at("a").op(6, 0, 1).go(42, "d").at("b").op(6, 0, 2).at("d").op(6, 0, 255).go(42, "h").at("z").op(4, 0).op(45);
        Kit.take(x, new Kit("F").own("m", "NN", 1, 1, code).bytes());
        // Deep first: the jump's end ahead of the act behind, ends other than d ahead of d.
        block(x, 0, 0, -1, 1, 0, 2, 5, 1);
        block(x, 1, 5, 0, 0, 0, 3, 3, 2, 4);
        block(x, 2, 41, 1, 0, 0, 1, 4);
        block(x, 3, 35, 1, 0, 0, 1, 4);
        block(x, 4, 44, 1, 0, 1, 1, 0);
        block(x, 5, 50, 0, 0, 0, 0);
        Due.same("plain", x.member(0, 0, 7), 0);
        Due.same("block(0, 0, 6, 0)", x.block(0, 0, 6, 0), -1);
        Due.same("block(0, 0, -1, 0)", x.block(0, 0, -1, 0), -1);
        Due.same("block(0, 0, 0, -1)", x.block(0, 0, 0, -1), -1);
        Due.same("block(0, 1, 0, 0)", x.block(0, 1, 0, 0), -1);
        Due.same("block(3, 0, 0, 0)", x.block(3, 0, 0, 0), -1);
        // An if's two ways to one block are two.
        SourceBack y = new SourceBack();
        Kit.take(y, new Kit("F").own("m", "NN", 1, 1, Kit.code().op(4, 0).go(34, "a").at("a").op(4, 0).op(45)).bytes());
        block(y, 0, 0, -1, 0, 0, 2, 1, 1);
        block(y, 1, 5, 0, 0, 1, 0);
    }

    private static void knotted() {
        SourceBack x = new SourceBack();
        Kit.Code code = Kit.code().op(4, 0).go(34, "b").at("a").op(6, 0, 255).at("b").op(6, 0, 254).op(4, 0)
            .go(38, "a").op(4, 0).op(45);
        Kit.take(x, new Kit("F").own("m", "NN", 1, 1, code).bytes());
        Due.same("knotted", x.member(0, 0, 7), 1);
        // 0 goes deep to b (8), b to a (5), which is left first, then to what is behind (16).
        block(x, 0, 0, -1, 0, 0, 2, 1, 3);
        block(x, 1, 8, 0, 1, 0, 2, 3, 2);
        block(x, 2, 16, 1, 0, 0, 0);
        block(x, 3, 5, 0, 0, 1, 1, 1);
    }
}
