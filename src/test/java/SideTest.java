/** Promises 17 to 23: call, steps, state, field, element, settle and count. */
public final class SideTest {
    public static void main(String[] args) {
        called();
        stepped();
        states();
        numbers();
        jumps();
        arraysAndFields();
        failures();
        parameters();
        rooms();
        deepCalls();
        betweenFiles();
        sideOne();
        anew();
        counted();
        Due.end();
    }

    private static SourceBack with(Kit kit) {
        SourceBack x = new SourceBack();
        Due.same("take", Kit.take(x, kit.bytes()), 0);
        return x;
    }

    private static void state(SourceBack x, int side, long... want) {
        for (int what = 0; what < want.length; what++) {
            Due.same("state(" + side + ", " + what + ")", x.state(side, what), want[what]);
        }
    }

    private static void called() {
        SourceBack x = with(new Kit("F").own("m", "NN", 1, 1, Kit.code().op(4, 0).op(45)));
        Due.same("no side", x.call(2, 0, 0, 1, 2), false);
        Due.same("no side", x.call(-1, 0, 0, 1, 2), false);
        Due.same("no file", x.call(0, 1, 0, 1, 2), false);
        Due.same("no file", x.call(0, -1, 0, 1, 2), false);
        Due.same("no member", x.call(0, 0, 1, 1, 2), false);
        Due.same("no member", x.call(0, 0, -1, 1, 2), false);
        Due.same("calls begun", x.count(4), 0);
        Due.same("a call", x.call(0, 0, 0, 1, 2), true);
        Due.same("one runs", x.call(0, 0, 0, 1, 2), false);
        Due.same("the other side", x.call(1, 0, 0, 3, 2), true);
        Due.same("calls begun", x.count(4), 2);
        Due.same("steps", x.steps(0, 4000), 2);
        state(x, 0, 2, 1, 0, 0, 2, 0, -1, -1, -1);
        Due.same("a call again", x.call(0, 0, 0, 7, 2), true);
        state(x, 0, 1, 0, 0, 0, 0, 1, 0, 0, 0);
        state(x, 1, 1, 0, 0, 0, 0, 1, 0, 0, 0);
    }

    private static void stepped() {
        SourceBack x = with(new Kit("F").own("m", "NN", 1, 1, Kit.code().at("h").op(6, 0, 1).go(42, "h")));
        int[][] wrong = {{2, 1}, {-1, 1}, {0, 0}, {0, -1}, {0, 4001}, {0, Integer.MAX_VALUE}, {0, Integer.MIN_VALUE}};
        for (int[] w : wrong) {
            Due.throwing("steps(" + w[0] + ", " + w[1] + ")", IllegalArgumentException.class, () -> x.steps(w[0], w[1]));
        }
        Due.throwing("no call", IllegalStateException.class, () -> x.steps(0, 1));
        x.call(0, 0, 0, 0, 0);
        Due.throwing("a call on the other side", IllegalStateException.class, () -> x.steps(1, 1));
        Due.throwing("not so many steps", IllegalArgumentException.class, () -> x.steps(0, 4001));
        Due.same("steps", x.steps(0, 4000), 4000);
        Due.same("steps", x.steps(0, 1), 1);
        state(x, 0, 1, 0, 0, 0, 4001, 1, 0, 0, 1);
        SourceBack y = with(new Kit("F").own("m", "V", 0, 0, Kit.code().op(0).op(46)));
        y.call(0, 0, 0, 0, 0);
        Due.same("fewer steps", y.steps(0, 3), 2);
        Due.throwing("it came back", IllegalStateException.class, () -> y.steps(0, 1));
        state(y, 0, 2, 0, 0, 0, 2, 0, -1, -1, -1);
    }

    private static void states() {
        SourceBack x = with(new Kit("F").own("m", "A", 0, 1, Kit.code().op(3).op(45)));
        state(x, 0, 0, 0, 0, 0, 0, 0, -1, -1, -1);
        int[][] none = {{2, 0}, {-1, 0}, {0, 9}, {0, -1}, {1, Integer.MAX_VALUE}};
        for (int[] n : none) {
            Due.throwing("state(" + n[0] + ", " + n[1] + ")", IndexOutOfBoundsException.class, () -> x.state(n[0], n[1]));
        }
        x.call(0, 0, 0, 0, 0);
        x.steps(0, 9);
        state(x, 0, 2, -1, 0, 0, 2);
        // Of acts of several bytes and a switch, the act that comes next is counted, not its byte.
        SourceBack y = with(new Kit("F").own("m", "NN", 1, 1, Kit.code().op(4, 0).choose("d 1:d 2:a").at("d").op(0)
            .op(1, 7).op(45).at("a").op(1, 9).op(45)));
        y.call(0, 0, 0, 2, 0);
        y.steps(0, 2);
        state(y, 0, 1, 0, 0, 0, 2, 1, 0, 0, 5);
        y.steps(0, 1);
        state(y, 0, 1, 0, 0, 0, 3, 1, 0, 0, 6);
        y.steps(0, 1);
        state(y, 0, 2, 9);
    }

    /** What a code makes of a and b; the failure as -1000 less it. */
    private static long given(long a, long b, Kit.Code code) {
        SourceBack x = with(new Kit("F").own("m", "NNN", 3, 9, code));
        x.call(0, 0, 0, a, b);
        for (int i = 0; i < 100 && x.state(0, 0) == 1; i++) {
            x.steps(0, 4000);
        }
        return x.state(0, 0) == 2 ? x.state(0, 1) : -1000 - x.state(0, 2);
    }

    private static void numbers() {
        long[][] pairs = {{7, 2}, {-7, 2}, {7, -2}, {0, 5}, {Long.MAX_VALUE, 1}, {Long.MIN_VALUE, -1}, {3, 65}, {-9, 1}};
        for (long[] p : pairs) {
            long x = p[0];
            long y = p[1];
            long[] want = {x + y, x - y, x * y, x / y, x % y, x & y, x | y, x ^ y, x << y, x >> y};
            for (int i = 0; i < 10; i++) {
                Due.same("op " + (9 + i), given(x, y, Kit.code().op(4, 0).op(4, 1).op(9 + i).op(45)), want[i]);
            }
            Due.same("minus", given(x, y, Kit.code().op(4, 0).op(19).op(45)), -x);
            Due.same("step", given(x, y, Kit.code().op(6, 0, 128).op(4, 0).op(45)), x - 128);
        }
        Due.same("/ 0", given(1, 0, Kit.code().op(4, 0).op(4, 1).op(12).op(45)), -1001);
        Due.same("% 0", given(1, 0, Kit.code().op(4, 0).op(4, 1).op(13).op(45)), -1001);
        Due.same("twice", given(5, 0, Kit.code().op(4, 0).op(21).op(11).op(45)), 25);
        Due.same("turned", given(5, 3, Kit.code().op(4, 0).op(4, 1).op(22).op(10).op(45)), -2);
        Due.same("y, x, y", given(5, 3, Kit.code().op(4, 0).op(4, 1).op(23).op(10).op(10).op(45)), 1);
        Due.same("dropped", given(5, 3, Kit.code().op(4, 0).op(4, 1).op(20).op(45)), 5);
        Kit kit = new Kit("F");
        int big = kit.number(Long.MIN_VALUE);
        SourceBack x = with(kit.own("m", "N", 0, 1, Kit.code().of(2, big).op(45)));
        x.call(0, 0, 0, 0, 0);
        x.steps(0, 2);
        state(x, 0, 2, Long.MIN_VALUE);
    }

    private static void jumps() {
        long[][] pairs = {{1, 2}, {2, 2}, {3, 2}, {-1, 0}, {0, 0}, {1, 0}};
        for (long[] p : pairs) {
            long x = p[0];
            long y = p[1];
            boolean[] goes = {x == y, x != y, x < y, x <= y, x > y, x >= y};
            for (int i = 0; i < 6; i++) {
                Due.same("op " + (28 + i), given(x, y, Kit.code().op(4, 0).op(4, 1).go(28 + i, "a").op(1, 0).op(45).at("a")
                    .op(1, 1).op(45)), goes[i] ? 1 : 0);
                if (y == 0) {
                    Due.same("op " + (34 + i), given(x, y, Kit.code().op(4, 0).go(34 + i, "a").op(1, 0).op(45).at("a")
                        .op(1, 1).op(45)), goes[i] ? 1 : 0);
                }
            }
        }
        for (int i = 40; i < 42; i++) {
            Due.same("none", given(0, 0, Kit.code().op(3).go(i, "a").op(1, 0).op(45).at("a").op(1, 1).op(45)), 41 - i);
            Due.same("an array", given(0, 0, Kit.code().op(4, 0).op(24).go(i, "a").op(1, 0).op(45).at("a").op(1, 1).op(45)),
                i - 40);
        }
        long[] keys = {-5, 1, 2, 3, 4294967297L};
        long[] want = {8, 9, 7, 9, 7};
        for (int i = 0; i < keys.length; i++) {
            Due.same("key " + keys[i], given(keys[i], 0, Kit.code().op(4, 0).choose("d -5:a 1:b 3:b").at("a").op(1, 8).op(45)
                .at("b").op(1, 9).op(45).at("d").op(1, 7).op(45)), want[i]);
        }
    }

    private static void arraysAndFields() {
        Kit kit = new Kit("F");
        int f = kit.ownField("f", 'N');
        int g = kit.ownField("g", 'A');
        kit.own("m", "NNV", 2, 3, Kit.code().op(4, 0).op(24).of(8, g).of(7, g).op(1, 1).op(4, 1).op(26).of(7, g).op(27)
            .of(7, g).op(1, 1).op(25).op(9).of(8, f).op(46));
        SourceBack x = with(kit);
        Due.same("0 at first", x.field(0, 0, 0), 0);
        Due.same("none at first", x.field(1, 0, 1), -1);
        x.call(0, 0, 0, 3, 40);
        x.steps(0, 4000);
        state(x, 0, 2, 0, 0, 0, 15);
        Due.same("field 0", x.field(0, 0, 0), 43);
        Due.same("field 1", x.field(0, 0, 1), 0);
        Due.same("the other side", x.field(1, 0, 0), 0);
        Due.same("arrays", x.count(2), 1);
        Due.same("size", x.element(0, 0, -1), 3);
        Due.same("element 0", x.element(0, 0, 0), 0);
        Due.same("element 1", x.element(0, 0, 1), 40);
        // Fields and arrays stay from call to call.
        x.call(0, 0, 0, 2, 5);
        x.steps(0, 4000);
        Due.same("a second array", x.field(0, 0, 1), 1);
        Due.same("the first stays", x.element(0, 0, 1), 40);
        Due.same("its size", x.element(0, 1, -1), 2);
        int[][] fields = {{0, 0, 2}, {0, 0, -1}, {0, 1, 0}, {0, -1, 0}, {2, 0, 0}, {-1, 0, 0}};
        for (int[] n : fields) {
            Due.throwing("field", IndexOutOfBoundsException.class, () -> x.field(n[0], n[1], n[2]));
        }
        int[][] elements = {{0, 2, 0}, {0, 2, -1}, {0, -1, -1}, {0, 0, 3}, {0, 0, -2}, {1, 0, 0}, {2, 0, 0}, {-1, 0, 0}};
        for (int[] n : elements) {
            Due.throwing("element", IndexOutOfBoundsException.class, () -> x.element(n[0], n[1], n[2]));
        }
    }

    private static void failures() {
        Kit.Code none = Kit.code().op(3).op(4, 0).op(25).op(45);
        Due.same("an element of none", given(0, 0, none), -1002);
        Due.same("the size of none", given(0, 0, Kit.code().op(3).op(27).op(45)), -1002);
        Due.same("an element of none set", given(9, 0, Kit.code().op(3).op(4, 0).op(4, 0).op(26).op(4, 0).op(45)), -1002);
        long[] indexes = {-1, 3, 4294967296L};
        for (long i : indexes) {
            Due.same("element " + i, given(3, i, Kit.code().op(1, 3).op(24).op(4, 1).op(25).op(45)), -1003);
            Due.same("element " + i, given(3, i, Kit.code().op(1, 3).op(24).op(4, 1).op(1, 1).op(26).op(4, 0).op(45)), -1003);
        }
        long[] lengths = {-1, 1001, 4294967296L, Long.MIN_VALUE};
        for (long n : lengths) {
            Due.same("make " + n, given(n, 0, Kit.code().op(4, 0).op(24).op(27).op(45)), -1004);
        }
        Due.same("make 1000", given(1000, 0, Kit.code().op(4, 0).op(24).op(27).op(45)), 1000);
        Due.same("make 0", given(0, 0, Kit.code().op(4, 0).op(24).op(27).op(45)), 0);
        SourceBack x = with(new Kit("F").own("m", "NN", 1, 1, Kit.code().op(4, 0).op(47)));
        x.call(0, 0, 0, -77, 0);
        Due.same("steps", x.steps(0, 9), 2);
        state(x, 0, 3, 0, 7, -77, 2, 0, -1, -1, -1);
        x.call(0, 0, 0, 1, 0);
        state(x, 0, 1, 0, 0, 0, 0, 1, 0, 0, 0);
    }

    private static void parameters() {
        Kit kit = new Kit("F").own("m", "NNANANN", 6, 2, Kit.code().op(4, 5).op(4, 3).op(10).op(45));
        SourceBack x = with(kit);
        x.call(0, 0, 0, 100, 7);
        long[][] arrays = {{100, 7, 107, 2}, {100, 7, 107, 4}};
        for (int a = 0; a < 2; a++) {
            for (int i = 0; i < 4; i++) {
                Due.same("array " + a + ", " + i, x.element(0, a, i), arrays[a][i]);
            }
        }
        x.steps(0, 4);
        // Parameters 3 and 5 are b, both.
        state(x, 0, 2, 0);
        SourceBack y = with(new Kit("F").own("m", "NNNN", 3, 2, Kit.code().op(4, 0).op(4, 1).op(10).op(4, 2).op(9).op(45)));
        y.call(0, 0, 0, 100, 7);
        y.steps(0, 6);
        state(y, 0, 2, 193);
    }

    private static void rooms() {
        // 40 arrays of 1000 are 40000 elements.
        Kit kit = new Kit("F").own("m", "NV", 1, 1, Kit.code().at("h").op(4, 0).op(24).op(20).go(42, "h"));
        kit.own("a", "AV", 1, 0, Kit.code().op(46));
        SourceBack x = with(kit);
        x.call(0, 0, 0, 1000, 0);
        x.steps(0, 4000);
        state(x, 0, 3, 0, 4, 0, 40 * 4 + 2);
        Due.same("arrays", x.count(2), 40);
        Due.same("a call without room", x.call(0, 0, 1, 0, 0), true);
        state(x, 0, 3, 0, 4, 0, 0, 0, -1, -1, -1);
        Due.throwing("it does not run", IllegalStateException.class, () -> x.steps(0, 1));
        Due.same("calls begun", x.count(4), 2);
        // 4000 arrays, however small.
        SourceBack y = with(kit);
        y.call(0, 0, 0, 0, 0);
        for (int i = 0; i < 4; i++) {
            Due.same("steps", y.steps(0, 4000), 4000);
        }
        Due.same("steps", y.steps(0, 4000), 2);
        state(y, 0, 3, 0, 4, 0, 16002);
        Due.same("arrays", y.count(2), 4000);
        y.settle();
        Due.same("room again", y.call(0, 0, 1, 0, 0), true);
        state(y, 0, 1);
    }

    private static void deepCalls() {
        Kit kit = new Kit("F");
        int self = kit.member("F", "m", "NN");
        kit.own("m", "NN", 1, 2, Kit.code().op(4, 0).go(34, "z").op(4, 0).op(1, 255).op(9).of(44, self).op(1, 1).op(9).op(45)
            .at("z").op(1, 0).op(45));
        SourceBack x = with(kit);
        x.call(0, 0, 0, 59, 0);
        for (int i = 0; i < 100 && x.state(0, 5) < 60; i++) {
            x.steps(0, 1 + i % 7);
        }
        Due.same("60 calls", x.state(0, 5), 60);
        x.steps(0, 4000);
        state(x, 0, 2, 59);
        x.call(0, 0, 0, 60, 0);
        x.steps(0, 4000);
        state(x, 0, 3, 0, 6, 0, 60 * 6, 0);
    }

    private static void betweenFiles() {
        Kit g = new Kit("G");
        int field = g.ownField("f", 'N');
        g.own("h", "NAN", 2, 2, Kit.code().op(4, 0).of(8, field).op(4, 1).op(27).op(45));
        Kit f = new Kit("F");
        int call = f.member("G", "h", "NAN");
        int other = f.member("G", "h", "NAV");
        int x1 = f.field("G", "f", 'N');
        int x2 = f.field("G", "f", 'A');
        int x3 = f.field("F", "none", 'N');
        f.own("m", "NAN", 2, 3, Kit.code().op(4, 0).op(4, 1).of(44, call).of(7, x1).op(9).op(45));
        f.own("n", "NAV", 2, 3, Kit.code().op(4, 0).op(4, 1).of(44, other).op(46));
        f.own("o", "V", 0, 1, Kit.code().of(7, x2).op(20).op(46));
        f.own("p", "V", 0, 1, Kit.code().op(1, 1).of(8, x3).op(46));
        SourceBack x = with(f);
        x.call(0, 0, 0, 5, 0);
        Due.same("G is not in the set", x.steps(0, 9), 3);
        state(x, 0, 3, 0, 5);
        Kit.take(x, g.bytes());
        x.call(0, 0, 0, 5, 0);
        x.steps(0, 4);
        state(x, 0, 1, 0, 0, 0, 4, 2, 1, 0, 1);
        x.steps(0, 99);
        state(x, 0, 2, 9);
        Due.same("its field", x.field(0, 1, 0), 5);
        for (int m = 1; m < 4; m++) {
            x.call(0, 0, m, 0, 0);
            x.steps(0, 99);
            state(x, 0, 3, 0, 5, 0, m == 1 ? 3 : m == 2 ? 1 : 2);
        }
    }

    private static void sideOne() {
        // The made one puts a temporary into a local: other steps, the same result.
        Kit kit = new Kit("F").own("m", "NN", 1, 2, Kit.code().op(4, 0).op(21).op(11).op(45));
        SourceBack x = with(kit);
        x.call(0, 0, 0, 9, 0);
        x.call(1, 0, 0, 9, 0);
        Due.same("steps", x.steps(0, 99), 4);
        Due.same("steps of the made one", x.steps(1, 99), 6);
        state(x, 0, 2, 81);
        state(x, 1, 2, 81);
        // Without a made one, the file itself; it calls the made one of another.
        Kit g = new Kit("G");
        int call = g.member("F", "m", "NN");
        g.own("end", "NN", 1, 1, Kit.code().op(4, 0).op(0).of(44, call).op(45));
        Kit.take(x, g.bytes());
        x.call(1, 1, 0, 4, 0);
        Due.same("steps", x.steps(1, 99), 4 + 6);
        state(x, 1, 2, 16);
    }

    private static void anew() {
        Kit kit = new Kit("F");
        int f = kit.ownField("f", 'N');
        int g = kit.ownField("g", 'A');
        kit.own("m", "NV", 1, 1, Kit.code().op(4, 0).of(8, f).op(1, 2).op(24).of(8, g).op(0).op(46));
        String text = "void m(number n) { F.f = n; F.g = make(2); drop 0; drop 0; }";
        for (int way = 0; way < 6; way++) {
            SourceBack x = with(kit);
            if (way == 3) {
                Kit.edit(x, 0, 0, text);
            }
            for (int side = 0; side < 2; side++) {
                x.call(side, 0, 0, 5, 0);
                x.steps(side, 5);
                Due.same("a field", x.field(side, 0, 0), 5);
                Due.same("an array", x.count(2 + side), 1);
            }
            boolean began = way < 4;
            if (way == 0) {
                x.settle();
            } else if (way == 1) {
                Kit.take(x, new Kit("G").bytes());
            } else if (way == 2) {
                Kit.edit(x, 0, 0, text);
            } else if (way == 3) {
                x.undo(0);
            } else if (way == 4) {
                Kit.take(x, kit.bytes());
                x.undo(0);
            } else {
                Kit.edit(x, 0, 0, "void m() { }");
                Kit.judge(x, 0, text);
            }
            for (int side = 0; side < 2; side++) {
                state(x, side, began ? 0 : 1, 0, 0, 0, began ? 0 : 5, began ? 0 : 1);
                Due.same("field 0", x.field(side, 0, 0), began ? 0 : 5);
                Due.same("field 1", x.field(side, 0, 1), began ? -1 : 0);
                Due.same("arrays", x.count(2 + side), began ? 0 : 1);
            }
            Due.same("calls begun", x.count(4), 2);
        }
    }

    private static void counted() {
        SourceBack x = with(new Kit("F").own("m", "AV", 1, 0, Kit.code().op(46)));
        Kit.take(x, new Kit("G").own("if", "V", 0, 0, Kit.code().op(46)).bytes());
        x.feed(1, 5);
        x.call(1, 0, 0, 0, 0);
        int[] want = {5, 2, 0, 1, 1, 1};
        for (int what = 0; what < 6; what++) {
            Due.same("count(" + what + ")", x.count(what), want[what]);
        }
        Due.same("count(6)", x.count(6), -1);
        Due.same("count(-1)", x.count(-1), -1);
    }
}
