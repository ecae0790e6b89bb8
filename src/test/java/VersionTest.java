import java.util.ArrayDeque;
import java.util.Deque;
import java.util.Random;

/**
 * Promises 13 and 14: behind any edits and undos, a file answers as one that was just taken with the same bytes; and
 * nothing is left of longer tapes, nor of files that were refused.
 */
public final class VersionTest {
    private static final String[] TEXTS = {
        "number m(number a, number b, array c, array d) { give 100000; }",
        "number m(number a, number b, array c, array d) { loop { a += 1000; if (a > b) { give a; } } }",
        "number m(number a, number b, array c, array d) { switch (a) { case 1, 2: { fail 3; } default: { } } give -(5); }",
        "number h(number a, array b) { give a; }",
        "number h(number a, array b) { while (a < 999) { a += 1; } give F.f + b[a]; }",
        "void v(number a) { }",
        "void v(number a) { F.f = a + 12345; F.v(a); }",
        "array w(array a) { give none; }",
        "array w(array a) { if (a != none) { give a; } give make(1234567890123); }"};
    /** Texts that are refused; the tape then still has signs of longer ones behind its end. */
    private static final String[] WRONG = {
        "", "void v(number a) { F.f", "void v(number a) { F.f = F.", "number h(number a, array b) { give F.h", "void v(n",
        "void v(number a) { drop F.g[1", "void q() { }", "array w(array a) { }"};

    private final SourceBack x = new SourceBack();
    private final Random r;
    private final String seed;
    /** The bytes of the versions that undo comes back to, the latest on top. */
    private final Deque<byte[]> earlier = new ArrayDeque<>();
    private byte[] now;
    private int edits;
    private int undos;

    private VersionTest(long number) {
        r = new Random(number);
        seed = "seed " + number;
    }

    public static void main(String[] args) {
        int edits = 0;
        int undos = 0;
        for (long number = 1; number <= 150; number++) {
            VersionTest test = new VersionTest(number);
            if (test.taken()) {
                test.go(40);
                edits += test.edits;
                undos += test.undos;
            }
        }
        Due.same("enough edits and undos", edits > 500 && undos > 300, true);
        textsThatEndEarlier();
        for (long number = 1; number <= 300; number++) {
            refusedFiles(new Random(number));
        }
        Due.end();
    }

    /** Each text without its end, while the tape's row still has that end. */
    private static void textsThatEndEarlier() {
        Kit kit = new Kit("Fil");
        kit.ownField("fiel", 'N');
        kit.ownField("gri", 'A');
        byte[] file = kit.own("memb", "NN", 1, 1, Kit.code().op(4, 0).op(45)).bytes();
        String[] texts = {
            "number memb(number num) { Fil.fiel = Fil.memb(-55 + num) << 2; num += -1000; give Fil.gri[12]; } ",
            "number memb(number num) { lab: while (num >= -7) { next lab; } lab: { break lab; } switch (num) { case -12, 34: { } "
                + "default: { } } if (Fil.gri == none) { fail 1; } else { drop make(num); } give size(Fil.gri); }",
            "number memb(number num) { -5", "number memb(number num) { drop -5; }", "array memb(number num) { give Fil.gri; }"};
        SourceBack x = new SourceBack();
        Kit.take(x, file);
        for (String text : texts) {
            for (int n = text.length(); n >= 0; n--) {
                SourceBack y = new SourceBack();
                Kit.take(y, file);
                String cut = text.substring(0, n);
                Due.same(cut, Kit.judge(x, 0, cut), Kit.judge(y, 0, cut));
            }
        }
    }

    /** One file after the other until one is taken; what was refused leaves nothing. */
    private static void refusedFiles(Random r) {
        SourceBack x = new SourceBack();
        for (int i = 0; i < 60 && x.count(1) == 0; i++) {
            byte[] bytes = smallFile(r);
            for (int k = r.nextInt(4); k > 0; k--) {
                bytes[4 + r.nextInt(bytes.length - 4)] = (byte) r.nextInt(10);
            }
            int n = r.nextInt(3) > 0 ? bytes.length : r.nextInt(bytes.length);
            byte[] cut = java.util.Arrays.copyOf(bytes, r.nextInt(9) == 0 ? bytes.length + 1 : n);
            SourceBack y = new SourceBack();
            Due.same("take", Kit.take(x, cut), Kit.take(y, cut));
            if (y.count(1) == 1) {
                for (int what = 0; what < 7; what++) {
                    Due.same("file", x.file(0, what), y.file(0, what));
                }
                for (int what = 0; what < 10; what++) {
                    Due.same("member", x.member(0, 0, what), y.member(0, 0, what));
                }
            }
        }
    }

    private static byte[] smallFile(Random r) {
        Kit kit = new Kit("F");
        for (int i = r.nextInt(6); i > 0; i--) {
            kit.name("abcdefgh".substring(0, i));
        }
        for (int i = r.nextInt(3); i > 0; i--) {
            kit.ownField("f" + i, 'N');
        }
        for (int i = r.nextInt(3); i > 0; i--) {
            kit.own("m" + i, "V", 0, 0, Kit.code().op(0).op(46));
        }
        return kit.bytes();
    }

    private boolean taken() {
        now = RoundTripTest.file(r.nextInt(100000));
        return Kit.take(x, now) == 0;
    }

    private void go(int steps) {
        boolean often = r.nextBoolean();
        for (int i = 0; i < steps; i++) {
            int what = r.nextInt(10);
            if (what < 4) {
                edit();
            } else if (what < (often ? 7 : 5)) {
                undo();
            } else {
                ask();
            }
        }
        compareAll();
    }

    private void edit() {
        if (r.nextInt(4) == 0) {
            String text = WRONG[r.nextInt(WRONG.length)];
            SourceBack y = fresh();
            int m = r.nextInt(4);
            Due.same(seed + ": refused", Kit.edit(x, 0, m, text), Kit.edit(y, 0, m, text));
            return;
        }
        String text = TEXTS[r.nextInt(TEXTS.length)];
        int m = "mhvw".indexOf(text.charAt(text.indexOf('(') - 1));
        if (m == 0 && r.nextBoolean()) {
            SourceBack y = new SourceBack();
            Kit.take(y, RoundTripTest.file(r.nextInt(100000)));
            String shown = Kit.text(y, 0, 0);
            text = shown == null ? text : shown;
        }
        Due.same(seed + ": edit", Kit.edit(x, 0, m, text), 0);
        earlier.push(now);
        if (earlier.size() > 8) {
            earlier.removeLast();
        }
        now = Kit.bytes(x, 0, 0);
        edits++;
        Due.same(seed + ": what can be undone", x.file(0, 6), earlier.size());
    }

    private void undo() {
        Due.same(seed + ": undo", x.undo(0), !earlier.isEmpty());
        if (!earlier.isEmpty()) {
            now = earlier.pop();
            undos++;
        }
        Due.same(seed + ": the bytes that were", Kit.bytes(x, 0, 0), now);
        Due.same(seed + ": what can be undone", x.file(0, 6), earlier.size());
    }

    private SourceBack fresh() {
        SourceBack y = new SourceBack();
        Due.same(seed + ": a version is a file", Kit.take(y, now), 0);
        return y;
    }

    /** One thing that is then known of this version, so that later ones may wrongly have it, too. */
    private void ask() {
        SourceBack y = fresh();
        int m = r.nextInt(4);
        switch (r.nextInt(6)) {
            case 0:
                Due.same(seed + ": text of " + m, Kit.text(x, 0, m), Kit.text(y, 0, m));
                break;
            case 1:
                compareMember(y, m);
                break;
            case 2:
                Due.same(seed + ": made", Kit.bytes(x, 0, 1), Kit.bytes(y, 0, 1));
                break;
            case 3:
                step(y, m);
                break;
            case 4:
                Due.same(seed + ": alike", x.alike(0, m, 0), 2);
                break;
            default:
                Due.same(seed + ": files with a made one", x.count(5), y.count(5));
                break;
        }
    }

    private void compareMember(SourceBack y, int m) {
        for (int what = 0; what < 10; what++) {
            Due.same(seed + ": member " + m + ", what " + what, x.member(0, m, what), y.member(0, m, what));
        }
        int acts = y.member(0, m, 4);
        for (int i = 0; i <= acts; i++) {
            for (int what = 0; what < 5; what++) {
                Due.same(seed + ": act", x.act(0, m, i, what), y.act(0, m, i, what));
            }
        }
    }

    private void step(SourceBack y, int m) {
        x.settle();
        y.settle();
        for (int side = 0; side < 2; side++) {
            Due.same(seed + ": call", x.call(side, 0, m, 7, 3), y.call(side, 0, m, 7, 3));
            Due.same(seed + ": steps", x.steps(side, 500), y.steps(side, 500));
            for (int what = 0; what < 9; what++) {
                Due.same(seed + ": state", x.state(side, what), y.state(side, what));
            }
            Due.same(seed + ": field", x.field(side, 0, 0), y.field(side, 0, 0));
        }
    }

    private void compareAll() {
        SourceBack y = fresh();
        for (int what = 0; what < 6; what++) {
            Due.same(seed + ": file, what " + what, x.file(0, what), y.file(0, what));
        }
        Due.same(seed + ": bytes", Kit.bytes(x, 0, 0), now);
        Due.same(seed + ": made", Kit.bytes(x, 0, 1), Kit.bytes(y, 0, 1));
        for (int m = 0; m < 4; m++) {
            compareMember(y, m);
            Due.same(seed + ": text of " + m, Kit.text(x, 0, m), Kit.text(y, 0, m));
            step(y, m);
        }
        for (int k = 1; k <= y.file(0, 1); k++) {
            Due.same(seed + ": entry", x.entry(0, k, 0), y.entry(0, k, 0));
            Due.same(seed + ": entry", x.entry(0, k, 1), y.entry(0, k, 1));
        }
    }
}
