/** Terms 1, promises 1 and 2: the tape at its edges, and what makes it empty. */
public final class TapeEdgeTest {
    public static void main(String[] args) {
        newObject();
        howManyBytes();
        highestFirst();
        refusedFeeding();
        fullTape();
        emptyBehindTake();
        emptyBehindJudge();
        emptyBehindEdit();
        notReadByOthers();
        Due.end();
    }

    private static byte[] small() {
        return new Kit("F").own("m", "V", 0, 0, Kit.code().op(46)).bytes();
    }

    /** "An empty tape, an empty set." */
    private static void newObject() {
        SourceBack x = new SourceBack();
        Due.same("tape", x.count(0), 0);
        Due.same("files", x.count(1), 0);
        Due.same("a file of an empty tape", x.take(), -1 - 1);
        Due.same("file(0, 0)", x.file(0, 0), -1);
        Due.same("judge(0)", x.judge(0), -1);
        Due.same("edit(0, 0)", x.edit(0, 0), -1);
        Due.same("undo(0)", x.undo(0), false);
        Due.same("call(0, 0, 0)", x.call(0, 0, 0, 0, 0), false);
        x.settle();
        for (int what = 0; what < 6; what++) {
            Due.same("count(" + what + ")", x.count(what), 0);
        }
    }

    /** "if n is not 1 .. 8" */
    private static void howManyBytes() {
        int[] wrong = {0, 9, -1, -8, 16, 256, 257, Integer.MAX_VALUE, Integer.MIN_VALUE};
        for (int n : wrong) {
            SourceBack x = new SourceBack();
            Due.same("feed(1, " + n + ")", x.feed(1, n), -1);
            Due.same("tape", x.count(0), 0);
        }
        SourceBack y = new SourceBack();
        int length = 0;
        for (int n = 1; n <= 8; n++) {
            length += n;
            Due.same("feed(1, " + n + ")", y.feed(1, n), length);
            Due.same("tape", y.count(0), length);
        }
    }

    /** "The n lowest bytes of v, the highest of these first": with other bytes above them. */
    private static void highestFirst() {
        Kit kit = new Kit("F");
        kit.number(0x00017F8081FEFF55L);
        kit.number(-1);
        byte[] bytes = kit.own("m", "V", 0, 0, Kit.code().op(46)).bytes();
        for (int n = 1; n <= 8; n++) {
            SourceBack x = new SourceBack();
            for (int i = 0; i < bytes.length; i += n) {
                int some = Math.min(n, bytes.length - i);
                long v = 0xA5A5A5A5A5A5A5A5L;
                for (int k = 0; k < some; k++) {
                    v = v << 8 | bytes[i + k] & 255;
                }
                x.feed(v, some);
            }
            Due.same("take, " + n + " bytes each", x.take(), 0);
            for (int i = 0; i < bytes.length; i++) {
                Due.same("byte " + i, x.byteAt(0, 0, i), bytes[i] & 255);
            }
        }
    }

    /** "NONE, changing nothing" */
    private static void refusedFeeding() {
        SourceBack x = new SourceBack();
        byte[] bytes = small();
        for (byte b : bytes) {
            Due.same("0 bytes", x.feed(7, 0), -1);
            x.feed(b, 1);
            Due.same("9 bytes", x.feed(7, 9), -1);
        }
        Due.same("tape", x.count(0), bytes.length);
        Due.same("take", x.take(), 0);
    }

    /**
     * "at most 65536" and "or it would be longer than 65536": a tape cannot be filled with 512 calls, so this goes on
     * where nothing is promised any more; the class has no such limit.
     */
    private static void fullTape() {
        SourceBack x = new SourceBack();
        Kit.take(x, small());
        long blanks = 0x2020202020202020L;
        for (int i = 0; i < 8191; i++) {
            x.feed(blanks, 8);
        }
        Due.same("tape", x.count(0), 65528);
        Due.same("up to 65535", x.feed(blanks, 7), 65535);
        for (int n = 2; n <= 8; n++) {
            Due.same(n + " bytes more", x.feed(-1, n), -1);
        }
        Due.same("tape", x.count(0), 65535);
        Due.same("up to 65536", x.feed(blanks, 1), 65536);
        for (int n = 1; n <= 8; n++) {
            Due.same(n + " bytes more", x.feed(-1, n), -1);
        }
        // All that lies there is blank: no token up to the end.
        Due.same("judge", x.judge(0), 1 + 16 * 65536);
        Due.same("tape", x.count(0), 0);
        Due.same("from the beginning", x.feed(1, 8), 8);
        SourceBack y = new SourceBack();
        for (int i = 0; i < 8192; i++) {
            y.feed(i == 0 ? 0xB007F11E00010001L : 0, 8);
        }
        Due.same("8 at once up to 65536", y.count(0), 65536);
        Due.same("a tag", y.take(), -1 - (5 + 32 * 8));
    }

    /** "What reads the tape makes it empty, whatever it answers": take. */
    private static void emptyBehindTake() {
        SourceBack x = new SourceBack();
        Due.same("a file", Kit.take(x, small()), 0);
        Due.same("tape", x.count(0), 0);
        x.feed(1, 3);
        Due.same("cut", x.take(), -1 - (1 + 32 * 3));
        Due.same("tape", x.count(0), 0);
        Due.same("the same name", Kit.take(x, small()) < 0, true);
        Due.same("tape", x.count(0), 0);
        for (int i = 1; i < 16; i++) {
            Kit.take(x, new Kit("G" + i).bytes());
        }
        x.feed(1, 8);
        Due.same("16 files", x.take(), -1 - 25);
        Due.same("tape", x.count(0), 0);
    }

    private static void emptyBehindJudge() {
        SourceBack x = new SourceBack();
        Kit.take(x, small());
        Due.same("no error", Kit.judge(x, 0, "void m() { }"), 0);
        Due.same("tape", x.count(0), 0);
        Due.same("an error", Kit.judge(x, 0, "void m() { "), 1 + 16 * 11);
        Due.same("tape", x.count(0), 0);
        Due.same("no such file", Kit.judge(x, 1, "void m() { }"), -1);
        Due.same("tape", x.count(0), 0);
        Due.same("no tape", x.judge(0), 1);
    }

    private static void emptyBehindEdit() {
        SourceBack x = new SourceBack();
        Kit.take(x, small());
        Due.same("an edit", Kit.edit(x, 0, 0, "void m() { }"), 0);
        Due.same("tape", x.count(0), 0);
        Due.same("an error", Kit.edit(x, 0, 0, "void m() { "), 1 + 16 * 11);
        Due.same("tape", x.count(0), 0);
        Due.same("another name", Kit.edit(x, 0, 0, "void k() { }"), 12);
        Due.same("tape", x.count(0), 0);
        Due.same("a rule", Kit.edit(x, 0, 0, "void m() { number a; drop a; }"), -2);
        Due.same("tape", x.count(0), 0);
        Due.same("no such member", Kit.edit(x, 0, 1, "void m() { }"), -1);
        Due.same("tape", x.count(0), 0);
        Due.same("no such file", Kit.edit(x, 1, 0, "void m() { }"), -1);
        Due.same("tape", x.count(0), 0);
        Due.same("no tape", x.edit(0, 0), 1);
    }

    /** What does not read the tape leaves it as it is. */
    private static void notReadByOthers() {
        SourceBack x = new SourceBack();
        Kit.take(x, small());
        Kit.feed(x, "void m() { }");
        x.file(0, 5);
        x.byteAt(0, 1, 0);
        x.entry(0, 1, 0);
        x.member(0, 0, 9);
        x.act(0, 0, 0, 0);
        x.kind(0, 0, 0, 0);
        x.block(0, 0, 0, 0);
        x.text(0, 0, 0);
        x.undo(0);
        x.pair(0, 0, 0);
        x.alike(0, 0, 0);
        x.call(0, 0, 0, 0, 0);
        x.call(1, 0, 0, 0, 0);
        x.steps(0, 1);
        x.state(0, 0);
        x.settle();
        Due.same("tape", x.count(0), 12);
        Due.same("edit", x.edit(0, 0), 0);
        Kit.feed(x, "void m() { }");
        Due.same("undo", x.undo(0), true);
        Due.same("tape", x.count(0), 12);
    }
}
