import java.util.ArrayDeque;
import java.util.Arrays;
import java.util.Deque;
import java.util.Random;

/** Whatever text is shown is taken by the judge, and what is made of it acts as the file; on many random codes. */
public final class RoundTripTest {
    /** Locals that hold numbers, and arrays. */
    private static final int[] NUMBERS = {0, 1, 4};
    private static final int[] ARRAYS = {2, 3, 5};
    private static final long[] BIG = {1000, -1000, Long.MIN_VALUE, Long.MAX_VALUE, 5, -129, 128};

    private final Random r;
    private final Kit kit;
    private final String[] others;
    private final Kit.Code code = Kit.code();
    private int labels;

    private RoundTripTest(long seed, String name, String... owners) {
        r = new Random(seed);
        kit = new Kit(name);
        others = owners;
        kit.ownField("f", 'N');
        kit.ownField("g", 'A');
        kit.member(name, "h", "NAN");
        kit.member(name, "v", "NV");
        kit.member(name, "w", "AA");
    }

    public static void main(String[] args) {
        int taken = 0;
        int knotted = 0;
        int[] again = new int[3];
        for (long seed = 1; seed <= 1200; seed++) {
            SourceBack x = new SourceBack();
            byte[] bytes = file(seed);
            if (Kit.take(x, bytes) < 0) {
                continue;
            }
            taken++;
            knotted += x.member(0, 0, 7);
            again[x.member(0, 0, 9)]++;
            check("seed " + seed, x, bytes, new Random(seed));
        }
        Due.same("enough were taken", taken > 600 && knotted > 20, true);
        Due.same("made again in every way", again[0] > 100 && again[1] > 100 && again[2] > 50, true);
        Due.end();
    }

    /** A file with a random member and three that it may call. */
    static byte[] file(long seed) {
        return new RoundTripTest(seed, "F").build();
    }

    /** Such a file with another name; what it asks for is often of other owners. */
    static byte[] file(long seed, String name, String... others) {
        return new RoundTripTest(seed, name, others).build();
    }

    private static void check(String seed, SourceBack x, byte[] bytes, Random r) {
        String text = Kit.text(x, 0, 0);
        Due.same(seed + ": judge", Kit.judge(x, 0, text), 0);
        SourceBack y = new SourceBack();
        Due.same(seed + ": the made one is a file", Kit.take(y, Kit.bytes(x, 0, 1)), 0);
        boolean same = text.equals(Kit.text(y, 0, 0));
        Due.same(seed + ": its text is the same", same, x.member(0, 0, 9) > 0);
        for (int i = 0; i < 3; i++) {
            step(seed, x, r.nextLong() >> r.nextInt(64), r.nextInt(40));
        }
        Due.same(seed + ": edit", Kit.edit(x, 0, 0, text), 0);
        Due.same(seed + ": edited", text.equals(Kit.text(x, 0, 0)), same);
        Due.same(seed + ": undo", x.undo(0), true);
        Due.same(seed + ": undone", Arrays.equals(Kit.bytes(x, 0, 0), bytes), true);
    }

    private static void step(String seed, SourceBack x, long a, long b) {
        x.settle();
        for (int side = 0; side < 2; side++) {
            x.call(side, 0, 0, a, b);
            for (int i = 0; i < (side == 0 ? 5 : 60) && x.state(side, 0) == 1; i++) {
                x.steps(side, 4000);
            }
        }
        if (x.state(0, 0) == 1) {
            return;
        }
        for (int what = 0; what < 4; what++) {
            Due.same(seed + ": state " + what, x.state(1, what), x.state(0, what));
        }
        Due.same(seed + ": field f", x.field(1, 0, 0), x.field(0, 0, 0));
        Due.same(seed + ": field g", x.field(1, 0, 1), x.field(0, 0, 1));
        Due.same(seed + ": arrays", x.count(3), x.count(2));
        for (int i = 0; i < Math.min(x.count(2), x.count(3)); i++) {
            StringBuilder left = new StringBuilder();
            StringBuilder right = new StringBuilder();
            for (int k = -1; k < x.element(0, i, -1); k++) {
                left.append(x.element(0, i, k)).append(" ");
            }
            for (int k = -1; k < x.element(1, i, -1); k++) {
                right.append(x.element(1, i, k)).append(" ");
            }
            Due.same(seed + ": array " + i, right.toString(), left.toString());
        }
    }

    private byte[] build() {
        code.op(1, r.nextInt(10)).op(5, 4).op(4, 2).op(5, 5);
        if (r.nextInt(3) == 0) {
            anyJumps();
        } else {
            nest(1 + r.nextInt(4), new ArrayDeque<>());
        }
        number(1);
        code.op(45);
        kit.own("m", "NNAAN", 6, 60, code);
        kit.own("h", "NAN", 2, 60, Kit.code().op(4, 0).op(4, 1).op(27).op(9).op(45));
        kit.own("v", "NV", 1, 60, Kit.code().op(4, 0).of(8, field("f", 'N')).op(46));
        kit.own("w", "AA", 1, 60, Kit.code().op(4, 0).op(45));
        return kit.bytes();
    }

    private String owner() {
        return others.length == 0 ? kit.owner : others[r.nextInt(others.length)];
    }

    /** Whether another owner is asked for what it does not have. */
    private boolean astray() {
        return others.length > 0 && r.nextInt(60) == 0;
    }

    private int field(String name, char kind) {
        return kit.field(owner(), astray() ? "fg".replace(name, "") : name, kind);
    }

    private int called(String name, String kinds) {
        return kit.member(owner(), astray() ? "k" : name, kinds);
    }

    private int one(int[] of) {
        return of[r.nextInt(of.length)];
    }

    private void number(int depth) {
        switch (r.nextInt(depth <= 0 ? 4 : 13)) {
            case 0: code.op(1, r.nextInt(256)); break;
            case 1: code.of(2, kit.number(BIG[r.nextInt(BIG.length)])); break;
            case 2: code.op(4, one(NUMBERS)); break;
            case 3: code.of(7, field("f", 'N')); break;
            case 4: number(depth - 1); code.op(19); break;
            case 5: array(depth - 1); number(depth - 1); code.op(25); break;
            case 6: array(depth - 1); code.op(27); break;
            case 7: call(depth - 1); break;
            case 8: number(depth - 1); code.op(21).op(9); break;
            case 9: number(depth - 1); number(depth - 1); code.op(22).op(10); break;
            case 10: number(depth - 1); number(depth - 1); code.op(23).op(20).op(10); break;
            default: number(depth - 1); number(depth - 1); code.op(9 + r.nextInt(10)); break;
        }
    }

    private void call(int depth) {
        number(depth);
        if (others.length > 0 && r.nextInt(4) == 0) {
            number(0);
            array(0);
            array(0);
            code.of(44, called("m", "NNAAN"));
        } else {
            array(depth);
            code.of(44, called("h", "NAN"));
        }
    }

    private void array(int depth) {
        switch (r.nextInt(depth <= 0 ? 3 : 5)) {
            case 0: code.op(4, one(ARRAYS)); break;
            case 1: code.of(7, field("g", 'A')); break;
            case 2: code.op(3); break;
            case 3: number(depth - 1); code.op(24); break;
            default: array(depth - 1); code.of(44, called("w", "AA")); break;
        }
    }

    private void statement() {
        int depth = r.nextInt(3);
        switch (r.nextInt(10)) {
            case 0: array(depth); code.op(5, one(ARRAYS)); break;
            case 1: code.op(6, one(NUMBERS), r.nextInt(256)); break;
            case 2: number(depth); code.of(8, field("f", 'N')); break;
            case 3: array(depth); code.of(8, field("g", 'A')); break;
            case 4: number(depth); code.op(20); break;
            case 5: array(depth); code.op(20); break;
            case 6: array(depth); number(depth); number(depth); code.op(26); break;
            case 7: number(depth); code.of(44, called("v", "NV")); break;
            default: number(depth); code.op(5, one(NUMBERS)); break;
        }
    }

    private void anyJumps() {
        int n = 2 + r.nextInt(7);
        for (int i = 0; i < n; i++) {
            code.at("L" + i);
            for (int k = r.nextInt(3); k > 0; k--) {
                statement();
            }
            String goal = "L" + r.nextInt(n);
            switch (r.nextInt(6)) {
                case 0: number(1); number(1); code.go(28 + r.nextInt(6), goal); break;
                case 1: number(1); code.go(34 + r.nextInt(6), goal); break;
                case 2: array(1); code.go(40 + r.nextInt(2), goal); break;
                case 3: code.go(42, goal); break;
                case 4: number(1); code.choose(goal + " -1:L" + r.nextInt(n) + " 0:L" + r.nextInt(n) + " 7:L0"); break;
                default: code.op(0); break;
            }
        }
    }

    private void nest(int depth, Deque<String> around) {
        for (int n = 1 + r.nextInt(3); n > 0; n--) {
            String u = "u" + labels++;
            int what = depth <= 0 ? 0 : r.nextInt(13);
            if (what < 5) {
                statement();
            } else if (what < 7) {
                number(1);
                code.go(34 + r.nextInt(6), u + "e");
                nest(depth - 1, around);
                code.go(42, u + "x").at(u + "e");
                nest(depth - 1, around);
                code.at(u + "x").op(0);
            } else if (what < 9) {
                loop(depth, u, around);
            } else if (what < 10) {
                value(u);
            } else if (what == 12) {
                below(u);
            } else if (what < 11) {
                number(1);
                code.choose(u + "d -2:" + u + "a 0:" + u + "b 1:" + u + "d 5:" + u + "a").at(u + "a");
                nest(depth - 1, around);
                if (r.nextInt(3) > 0) {
                    code.go(42, u + "d");
                }
                code.at(u + "b");
                nest(depth - 1, around);
                code.at(u + "d").op(0);
            } else if (!around.isEmpty()) {
                number(1);
                code.go(34 + r.nextInt(6), r.nextBoolean() ? around.peekFirst() : around.peekLast());
            }
        }
        if (r.nextInt(8) == 0) {
            number(1);
            code.op(r.nextBoolean() ? 45 : 47);
        }
    }

    private void loop(int depth, String u, Deque<String> around) {
        code.at(u + "h").op(0);
        around.push(u + "h");
        around.push(u + "z");
        number(1);
        number(1);
        code.go(28 + r.nextInt(6), u + "z");
        nest(depth - 1, around);
        around.pop();
        around.pop();
        code.go(42, u + "h").at(u + "z").op(0);
    }

    /** A value that lies below an if or a switch. */
    private void below(String u) {
        boolean ofNumber = r.nextBoolean();
        value(ofNumber);
        number(1);
        if (r.nextBoolean()) {
            code.go(34 + r.nextInt(6), u + "e");
        } else {
            code.choose(u + "e 3:" + u + "f").at(u + "f");
        }
        if (r.nextBoolean()) {
            code.op(20);
            value(ofNumber);
        }
        code.at(u + "e").op(5, ofNumber ? one(NUMBERS) : one(ARRAYS));
    }

    private void value(boolean ofNumber) {
        if (ofNumber) {
            number(1);
        } else {
            array(1);
        }
    }

    /** A value that goes from two blocks to a third. */
    private void value(String u) {
        boolean ofNumber = r.nextBoolean();
        number(1);
        code.go(34 + r.nextInt(6), u + "e");
        for (int part = 0; part < 2; part++) {
            value(ofNumber);
            if (part == 0) {
                code.go(42, u + "x").at(u + "e");
            }
        }
        code.at(u + "x").op(5, ofNumber ? one(NUMBERS) : one(ARRAYS));
    }
}
