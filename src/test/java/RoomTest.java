import java.lang.management.ManagementFactory;
import java.util.Random;
import java.util.zip.CRC32;

/** Rule 12 of LANGUAGE.md: what a run of 512 calls makes stays far below the room of 7.3 million elements. */
public final class RoomTest {
    private static final int CALLS = 512;
    /** An element has a byte at least (most have four or eight), so there are never more elements than bytes. */
    private static final long BYTES_MOST = 3_000_000;
    private static final com.sun.management.ThreadMXBean MEMORY =
        (com.sun.management.ThreadMXBean) ManagementFactory.getThreadMXBean();

    private static SourceBack x;
    private static int calls;
    private static long before;

    public static void main(String[] args) {
        // The first time, classes are loaded, which takes room that is not the run's.
        refusedTakes();
        refusedTakes();
        editsBesideLongTexts();
        editsOfTheLongTexts();
        editsBesideMembersWithoutText();
        knottedMembers();
        editsThatGrow();
        oneLongMember(960);
        oneLongMember(480);
        sixteenFiles();
        moreNodesThanGuessed();
        Due.end();
    }

    private static long bytesSoFar() {
        return MEMORY.isThreadAllocatedMemorySupported() ? MEMORY.getThreadAllocatedBytes(Thread.currentThread().getId()) : 0;
    }

    private static void begin() {
        before = bytesSoFar();
        x = new SourceBack();
        calls = 0;
    }

    private static void end(String run) {
        long bytes = bytesSoFar() - before;
        Due.same(run + ": not more calls than an object has", calls <= CALLS, true);
        Due.same(run + ": " + bytes + " bytes are not too many", bytes <= BYTES_MOST, true);
    }

    private static void feed(byte[] bytes) {
        for (int i = 0; i < bytes.length; i += 8) {
            int n = Math.min(8, bytes.length - i);
            long v = 0;
            for (int k = 0; k < n; k++) {
                v = v << 8 | bytes[i + k] & 255;
            }
            Due.same("feed", x.feed(v, n), i + n);
            calls++;
        }
    }

    private static int take(byte[] bytes) {
        feed(bytes);
        calls++;
        return x.take();
    }

    private static int edit(int f, int m, byte[] text) {
        feed(text);
        calls++;
        return x.edit(f, m);
    }

    private static int file(int f, int what) {
        calls++;
        return x.file(f, what);
    }

    private static int member(int m, int what) {
        calls++;
        return x.member(0, m, what);
    }

    private static boolean undo() {
        calls++;
        return x.undo(0);
    }

    private static byte[] bytes(String text) {
        byte[] all = new byte[text.length()];
        for (int i = 0; i < all.length; i++) {
            all[i] = (byte) text.charAt(i);
        }
        return all;
    }

    /** A file H with a, and members whose ifs stand in one another, as many as they may. */
    private static byte[] longTexts(int members) {
        Kit kit = new Kit("H");
        kit.sign("V");
        kit.own("a", "V", 0, 0, Kit.code().op(46));
        for (int m = 1; m <= members; m++) {
            Kit.Code code = Kit.code().op(1, 0);
            for (int i = 0; i < 58; i++) {
                code.op(21).go(34, "x");
            }
            for (int i = 0; i < 5; i++) {
                code.op(3).op(20);
            }
            kit.own(String.valueOf((char) ('a' + m)), "V", 0, 3, code.at("x").op(20).op(46));
        }
        return kit.bytes();
    }

    /** The run of issue 12: each edit of a made the other members' texts again. */
    private static void editsBesideLongTexts() {
        byte[] file = longTexts(8);
        CRC32 sum = new CRC32();
        sum.update(file);
        Due.same("the file that was told", sum.getValue(), 3241183105L);
        byte[] text = bytes("void a(){}");
        begin();
        Due.same("take", take(file), 0);
        for (int i = 0; i < 49; i++) {
            Due.same("edit", edit(0, 0, text), 0);
            Due.same("file 5", file(0, 5), 6373);
            if (i < 48) {
                Due.same("undo", undo(), true);
            }
        }
        Due.same("calls", calls, CALLS);
        end("edits beside long texts");
        for (int m = 1; m <= 8; m++) {
            Due.same("signs", x.member(0, m, 8), 17089);
        }
    }

    /** The long members themselves are edited and undone, and asked for behind both. */
    private static void editsOfTheLongTexts() {
        byte[] file = longTexts(8);
        byte[][] texts = new byte[8][];
        for (int m = 1; m <= 8; m++) {
            texts[m - 1] = bytes("void " + (char) ('a' + m) + "(){}");
        }
        begin();
        Due.same("take", take(file), 0);
        for (int i = 0; calls < CALLS - 8; i++) {
            int m = 1 + i % 8;
            Due.same("edit", edit(0, m, texts[m - 1]), 0);
            Due.same("signs of the edited", member(m, 8), 20);
            Due.same("signs of another", member(1 + m % 8, 8), 17089);
            Due.same("undo", undo(), true);
            Due.same("signs of the undone", member(m, 8), 17089);
            Due.same("made", file(0, 5), 6373);
        }
        end("edits of the long texts");
    }

    /** One member with too many signs, one with too many variables for the judge. */
    private static void editsBesideMembersWithoutText() {
        Kit kit = new Kit("H");
        kit.own("a", "V", 0, 0, Kit.code().op(46));
        Kit.Code signs = Kit.code();
        for (int i = 0; i < 59; i++) {
            signs.op(3).go(40, "x");
        }
        for (int i = 0; i < 140; i++) {
            signs.op(3).op(20);
        }
        kit.own("b", "V", 0, 3, signs.at("x").op(46));
        Kit.Code variables = Kit.code().op(1, 0);
        for (int i = 0; i < 62; i++) {
            variables.op(19).op(21).op(20);
        }
        kit.own("c", "V", 0, 3, variables.op(20).op(46));
        byte[] file = kit.bytes();
        byte[] text = bytes("void a(){}");
        begin();
        Due.same("take", take(file), 0);
        for (int i = 0; calls < CALLS - 12; i++) {
            Due.same("edit", edit(0, 0, text), 0);
            Due.same("no text: signs", member(1, 8), SourceBack.NONE);
            Due.same("no text: variables", member(2, 8), SourceBack.NONE);
            Due.same("no text: again", member(2, 9), SourceBack.NONE);
            Due.same("no made one", file(0, 5), SourceBack.NONE);
            Due.same("undo", undo(), true);
            Due.same("no made one", file(0, 5), SourceBack.NONE);
        }
        end("edits beside members without a text");
    }

    private static byte[] knot(int ifs, Random r) {
        Kit.Code code = Kit.code().op(1, 0);
        for (int i = 0; i < ifs; i++) {
            int goal = 2 + 4 * r.nextInt(ifs + 1);
            code.op(21).op(34, goal >> 8, goal & 255);
        }
        return code.op(20).op(46).bytes();
    }

    /** What is made of knotted members is several times as long as they are. */
    private static void knottedMembers() {
        Kit kit = new Kit("H");
        Random r = new Random(1);
        kit.own("a", "V", 0, 0, Kit.code().op(46));
        for (int m = 1; m <= 15; m++) {
            kit.own(kit.member("H", String.valueOf((char) ('a' + m)), "V"), 0, 3, knot(28, r));
        }
        byte[] file = kit.bytes();
        byte[] text = bytes("void a(){}");
        begin();
        Due.same("take", take(file), 0);
        Due.same("knotted", member(1, 7), 1);
        int made = file(0, 5);
        Due.same("a made one that is long", made > 10000, true);
        for (int i = 0; calls < CALLS - 8; i++) {
            Due.same("edit", edit(0, 0, text), 0);
            Due.same("made", file(0, 5), made);
            Due.same("undo", undo(), true);
            Due.same("made", file(0, 5), made);
        }
        end("knotted members");
    }

    /** Each edit brings a number that is new; more of them than can be undone. */
    private static void editsThatGrow() {
        Kit kit = new Kit("H");
        Random r = new Random(2);
        kit.own("a", "V", 0, 0, Kit.code().op(46));
        for (int m = 1; m <= 8; m++) {
            kit.own(kit.member("H", String.valueOf((char) ('a' + m)), "V"), 0, 3, knot(28, r));
        }
        byte[] file = kit.bytes();
        byte[][] texts = new byte[70][];
        for (int i = 0; i < texts.length; i++) {
            texts[i] = bytes("void a(){fail " + (1000 + i) + ";}");
        }
        begin();
        Due.same("take", take(file), 0);
        for (int i = 0; i < texts.length && calls < CALLS - 8; i++) {
            Due.same("edit", edit(0, 0, texts[i]), 0);
            Due.same("bytes", file(0, 4), file.length + 3 + 9 * (i + 1));
            Due.same("made", file(0, 5) > file.length, true);
        }
        end("edits that grow");
    }

    /** A member as long as the calls let it be, and both sides full of arrays. */
    private static void oneLongMember(int ifs) {
        Kit kit = new Kit("H");
        Kit.Code filling = Kit.code().at("a");
        for (int i = 0; i < 3; i++) {
            filling.op(1, 0).op(24).op(20);
        }
        kit.own("a", "V", 0, 1, filling.op(1, 100).op(24).op(20).go(42, "a"));
        for (int m = 1; m * ifs <= 960; m++) {
            kit.own(kit.member("H", String.valueOf((char) ('a' + m)), "V"), 0, 3, knot(ifs, new Random(m)));
        }
        byte[] file = kit.bytes();
        begin();
        Due.same("take", take(file), 0);
        for (int m = 1; m * ifs <= 960; m++) {
            Due.same("too many signs", member(m, 9), SourceBack.NONE);
        }
        for (int side = 0; side < 2; side++) {
            Due.same("call", x.call(side, 0, 0, 1, 2), true);
            Due.same("steps", x.steps(side, 4000), 4000);
            x.steps(side, 4000);
            Due.same("no room", x.state(side, 2), 4);
            Due.same("arrays", x.count(2 + side), 1603);
            calls += 5;
        }
        end("a member with " + ifs + " ifs");
    }

    /** The head of a file with 2000 entries, and nothing behind it. */
    private static void refusedTakes() {
        begin();
        for (int i = 0; i < CALLS / 2; i++) {
            Due.same("feed", x.feed(0xB007F11E000107D0L, 8), 8);
            Due.same("the tape ends", x.take(), -1 - (1 + 32 * 8));
            calls += 2;
        }
        end("refused takes");
    }

    /** Terms that are put out and then given to calls make more of the tree than its first row has room for. */
    private static void moreNodesThanGuessed() {
        Kit kit = new Kit("F");
        int called = kit.member("F", "h", "NNNNNNNNV");
        Kit.Code code = Kit.code();
        StringBuilder declared = new StringBuilder();
        StringBuilder statements = new StringBuilder();
        for (int i = 0; i < 7; i++) {
            for (int k = 8 * i; k < 8 * i + 8; k++) {
                code.op(4, 0);
                declared.append(k == 0 ? "  number t" : ", t").append(k);
                statements.append("  t").append(k).append(" = n0;\n");
            }
            code.op(22).of(44, called);
            for (int k = 0; k < 8; k++) {
                statements.append(k == 0 ? "  F.h(t" : ", t").append(8 * i + (k < 6 ? k : 13 - k));
            }
            statements.append(");\n");
        }
        byte[] file = kit.own("m", "NV", 1, 8, code.op(46)).bytes();
        begin();
        Due.same("take", take(file), 0);
        Due.same("text", Kit.text(x, 0, 0), "void m(number n0) {\n" + declared + ";\n" + statements + "  end;\n}\n");
    }

    private static void sixteenFiles() {
        byte[][] files = new byte[16][];
        for (int f = 0; f < 16; f++) {
            Kit kit = new Kit("F" + (char) ('a' + f));
            files[f] = kit.own("a", "V", 0, 0, Kit.code().op(46)).bytes();
        }
        byte[] text = bytes("void a(){}");
        begin();
        for (int f = 0; f < 16; f++) {
            x.feed(0xB007F11E000107D0L, 8);
            Due.same("the tape ends", x.take(), -1 - (1 + 32 * 8));
            calls += 2;
            Due.same("take", take(files[f]), f);
        }
        for (int i = 0; calls < CALLS - 4; i++) {
            Due.same("edit", edit(i % 16, 0, text), 0);
            Due.same("made", file(i % 16, 5), files[i % 16].length);
        }
        end("sixteen files");
    }
}
