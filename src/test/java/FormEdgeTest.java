import java.io.ByteArrayOutputStream;
import java.util.Arrays;

/** Terms 2, promise 3: each rule of 1 to 15, 24 and 25 at its edges, and the place that is told. */
public final class FormEdgeTest {
    public static void main(String[] args) {
        everyCut();
        firstFour();
        versions();
        howManyEntries();
        tags();
        namesLength();
        namesSigns();
        signsLength();
        kindsOfSigns();
        fieldsKind();
        entriesAsking();
        entryByEntry();
        askingForWhatIsBehind();
        listsAsking();
        otherOwner();
        fieldsTwice();
        membersTwice();
        howManyFields();
        howManyMembers();
        locals();
        pile();
        bytesOfCode();
        noSuchOp();
        beyondItsCode();
        endsWithTheTape();
        actsAsking();
        localsOfActs();
        keys();
        bytesBehind();
        sameName();
        fullSet();
        longestTape();
        leastOfOnePlace();
        Due.end();
    }

    private static int told(int rule, int place) {
        return -1 - (rule + 32 * place);
    }

    /** A refused file leaves the set as it was. */
    private static void refused(String what, byte[] bytes, int rule, int place) {
        SourceBack x = new SourceBack();
        Due.same(what, Kit.take(x, bytes), told(rule, place));
        Due.same(what + ", files", x.count(1), 0);
    }

    private static void taken(String what, byte[] bytes) {
        Due.same(what, Kit.take(new SourceBack(), bytes), 0);
    }

    /** 8 F, 11 m, 14 sign N:N, 18 member, 25 name, 27 fields, 29 members, 31 member, 33 locals, 34 pile, 35, 37 code. */
    private static byte[] simple() {
        return new Kit("F").own("m", "NN", 1, 1, Kit.code().op(4, 0).op(45)).bytes();
    }

    private static byte[] with(byte[] bytes, int place, int... to) {
        byte[] changed = bytes.clone();
        for (int i = 0; i < to.length; i++) {
            changed[place + i] = (byte) to[i];
        }
        return changed;
    }

    private static byte[] cut(byte[] bytes, int length) {
        return Arrays.copyOf(bytes, length);
    }

    /** A file of one pool, with nothing but its name (entry 1) behind it. */
    private static byte[] pool(int entries, int... bytes) {
        ByteArrayOutputStream all = new ByteArrayOutputStream();
        all.writeBytes(new byte[] {(byte) 0xB0, 7, (byte) 0xF1, 0x1E, 0, 1, (byte) (entries >> 8), (byte) entries});
        for (int b : bytes) {
            all.write(b);
        }
        all.writeBytes(new byte[] {0, 1, 0, 0, 0, 0});
        return all.toByteArray();
    }

    private static byte[] file(int locals, int pile, Kit.Code code) {
        return new Kit("F").own("m", "NN", locals, pile, code).bytes();
    }

    /** "1 the tape ends (at its end, where a number of several bytes is cut, too; an act whose bytes end with ..)" */
    private static void everyCut() {
        Kit kit = new Kit("Name");
        int number = kit.number(123456789);
        int f = kit.ownField("f", 'N');
        kit.ownField("g", 'A');
        int v = kit.member("Other", "v", "V");
        kit.own("m", "NAN", 2, 2, Kit.code().op(0).op(1, 5).op(20).of(2, number).of(8, f).op(6, 0, 1).of(44, v).op(4, 0)
            .choose("d 1:d 2:d").at("d").op(4, 0).go(34, "e").at("e").op(4, 0).op(45));
        kit.own("w", "V", 0, 0, Kit.code().op(46));
        byte[] bytes = kit.bytes();
        taken("the whole", bytes);
        for (int i = 0; i < bytes.length; i++) {
            refused("cut at " + i, cut(bytes, i), 1, i);
        }
    }

    /** "2 the first four (at 0)" */
    private static void firstFour() {
        for (int i = 0; i < 4; i++) {
            refused("byte " + i, with(simple(), i, simple()[i] + 1), 2, 0);
            refused("byte " + i, cut(with(simple(), i, 0), 4), 2, 0);
        }
        refused("three of them, and wrong ones", new byte[3], 1, 3);
    }

    /** "VERSION 1 .. 9" */
    private static void versions() {
        for (int v : new int[] {0, 10, 255, 256, 257, 265, 32769, 65535}) {
            refused("version " + v, with(simple(), 4, v >> 8, v), 3, 4);
        }
        for (int v = 1; v <= 9; v++) {
            SourceBack x = new SourceBack();
            Due.same("version " + v, Kit.take(x, with(simple(), 4, 0, v)), 0);
            Due.same("file(0, 0)", x.file(0, 0), v);
        }
    }

    /** "how many ENTRIES (1 .. 2000)": 2000 of three bytes each need more than 512 calls. */
    private static void howManyEntries() {
        for (int n : new int[] {0, 2001, 32768, 65535}) {
            refused(n + " entries", with(simple(), 6, n >> 8, n), 4, 6);
        }
        SourceBack x = new SourceBack();
        Due.same("one entry", Kit.take(x, pool(1, 1, 1, 'F')), 0);
        Due.same("file(0, 1)", x.file(0, 1), 1);
        int[] names = new int[6000];
        for (int i = 0; i < 2000; i++) {
            names[3 * i] = 1;
            names[3 * i + 1] = 1;
            names[3 * i + 2] = 'F';
        }
        SourceBack y = new SourceBack();
        Due.same("2000 entries", Kit.take(y, pool(2000, names)), 0);
        Due.same("file(0, 1)", y.file(0, 1), 2000);
        Due.same("entry 2000", y.entry(0, 2000, 4), 'F');
        refused("one fewer than told", pool(1 + 1, 1, 1, 'F'), 5, 11);
    }

    /** "5 a tag" */
    private static void tags() {
        for (int tag : new int[] {0, 6, 7, 127, 128, 255}) {
            refused("tag " + tag, with(simple(), 8, tag), 5, 8);
            refused("tag " + tag, with(simple(), 18, tag), 5, 18);
        }
    }

    /** "A WORD: 1 to 30", "6 a name's length" */
    private static void namesLength() {
        for (int n : new int[] {0, 31, 128, 255}) {
            refused("a name of " + n, with(simple(), 9, n), 6, 9);
        }
        for (int n = 1; n <= 30; n++) {
            SourceBack x = new SourceBack();
            Due.same("a name of " + n, Kit.take(x, new Kit("a".repeat(n)).bytes()), 0);
            Due.same("letters", x.entry(0, 1, 1), n);
        }
    }

    /** "of letters, digits and _, the first none of the digits", "6 a name's .. sign" */
    private static void namesSigns() {
        for (int c = 0; c < 256; c++) {
            boolean letter = c >= 'a' && c <= 'z' || c >= 'A' && c <= 'Z' || c == '_';
            boolean digit = c >= '0' && c <= '9';
            byte[] first = pool(1, 1, 3, c, 'b', 'c');
            byte[] last = pool(1, 1, 3, 'a', 'b', c);
            Due.same("first " + c, Kit.take(new SourceBack(), first), letter ? 0 : told(6, 10));
            Due.same("last " + c, Kit.take(new SourceBack(), last), letter || digit ? 0 : told(6, 12));
        }
        refused("the first that is wrong", pool(1, 1, 3, 'a', ' ', '!'), 6, 11);
    }

    /** "SIGN (u1 n, 0 .. 8", "7 a sign's length" */
    private static void signsLength() {
        for (int n : new int[] {9, 10, 128, 255}) {
            refused("a sign of " + n, with(simple(), 15, n), 7, 15);
        }
        for (int n = 0; n <= 8; n++) {
            SourceBack x = new SourceBack();
            Kit kit = new Kit("F");
            kit.sign("A".repeat(n) + "V");
            Due.same("a sign of " + n, Kit.take(x, kit.bytes()), 0);
            Due.same("parameters", x.entry(0, 2, 1), n);
        }
    }

    /** "n bytes N or A, one N, A or V", "7 a sign's .. kinds" */
    private static void kindsOfSigns() {
        for (int c = 0; c < 256; c++) {
            boolean kind = c == 'N' || c == 'A';
            byte[] first = pool(2, 1, 1, 'F', 3, 2, c, 'N', 'V');
            byte[] second = pool(2, 1, 1, 'F', 3, 2, 'A', c, 'V');
            byte[] result = pool(2, 1, 1, 'F', 3, 2, 'A', 'N', c);
            byte[] alone = pool(2, 1, 1, 'F', 3, 0, c);
            Due.same("parameter 0 " + c, Kit.take(new SourceBack(), first), kind ? 0 : told(7, 13));
            Due.same("parameter 1 " + c, Kit.take(new SourceBack(), second), kind ? 0 : told(7, 14));
            Due.same("result " + c, Kit.take(new SourceBack(), result), kind || c == 'V' ? 0 : told(7, 15));
            Due.same("result alone " + c, Kit.take(new SourceBack(), alone), kind || c == 'V' ? 0 : told(7, 13));
        }
    }

    /** "FIELD (.. u1 N or A)", "7 .. a field's kind" */
    private static void fieldsKind() {
        for (int c = 0; c < 256; c++) {
            byte[] bytes = pool(2, 1, 1, 'F', 4, 0, 1, 0, 1, c);
            Due.same("kind " + c, Kit.take(new SourceBack(), bytes), c == 'N' || c == 'A' ? 0 : told(7, 16));
        }
    }

    /** "8 (at what asks) no entry, or one of another tag": 1 NAME, 2 NUMBER, 3 SIGN, 4 FIELD, 5 MEMBER. */
    private static byte[] asking(int a, int b, int c, int d, int e) {
        return pool(5, 1, 1, 'F', 2, 0, 0, 0, 0, 0, 0, 0, 0, 3, 0, 'V', 4, a >> 8, a, b >> 8, b, 'N',
            5, c >> 8, c, d >> 8, d, e >> 8, e);
    }

    private static void entriesAsking() {
        taken("what they ask for is there", asking(1, 1, 1, 1, 3));
        for (int k : new int[] {0, 2, 3, 4, 5, 6, 257, 65535}) {
            refused("a field's owner " + k, asking(k, 1, 1, 1, 3), 8, 24);
            refused("a field's name " + k, asking(1, k, 1, 1, 3), 8, 26);
            refused("a member's owner " + k, asking(1, 1, k, 1, 3), 8, 30);
            refused("a member's name " + k, asking(1, 1, 1, k, 3), 8, 32);
        }
        for (int k : new int[] {0, 1, 2, 4, 5, 6, 259, 65535}) {
            refused("a member's sign " + k, asking(1, 1, 1, 1, k), 8, 34);
        }
    }

    /** "An entry's own asking (8) is looked at behind the last entry, entry by entry" */
    private static void entryByEntry() {
        refused("two that ask in vain", asking(1, 0, 0, 1, 3), 8, 26);
        refused("two of one entry", asking(1, 1, 1, 0, 0), 8, 32);
        byte[] tag = with(asking(0, 1, 1, 1, 3), 29, 9);
        refused("a tag behind it", tag, 5, 29);
        refused("the end within the last entry", cut(asking(0, 1, 1, 1, 3), 35), 1, 35);
        refused("the end behind the last entry", cut(asking(0, 1, 1, 1, 3), 36), 8, 24);
        refused("the file's name behind it", with(asking(0, 1, 1, 1, 3), 36, 9, 9), 8, 24);
    }

    /** "What an entry asks for may stand behind it." */
    private static void askingForWhatIsBehind() {
        // 1 MEMBER 3.4 5, 2 FIELD 3.4, 3 F, 4 m, 5 :V; the file's name is 3.
        byte[] bytes = pool(5, 5, 0, 3, 0, 4, 0, 5, 4, 0, 3, 0, 4, 'A', 1, 1, 'F', 1, 1, 'm', 3, 0, 'V');
        byte[] named = with(bytes, bytes.length - 6, 0, 3);
        SourceBack x = new SourceBack();
        Due.same("take", Kit.take(x, named), 0);
        Due.same("the member's sign", x.entry(0, 1, 3), 5);
        refused("the file's name is no NAME", bytes, 8, bytes.length - 6);
        refused("the first entry asks in vain", with(named, 9, 0, 9), 8, 9);
        refused("the first entry asks for a SIGN in vain", with(named, 13, 0, 4), 8, 13);
        refused("the last but two", with(named, 16, 0, 5), 8, 16);
    }

    /** "what fields and members ask for, where it stands" */
    private static void listsAsking() {
        for (int k : new int[] {0, 3, 4, 5, 257, 65535}) {
            refused("the file's name " + k, with(simple(), 25, k >> 8, k), 8, 25);
        }
        for (int k : new int[] {0, 1, 2, 3, 5, 260, 65535}) {
            refused("a member " + k, with(simple(), 31, k >> 8, k), 8, 31);
        }
        Kit kit = new Kit("F");
        kit.ownField("f", 'N');
        byte[] bytes = kit.bytes();
        // 8 F, 11 f, 14 field, 20 name, 22 how many, 24 field.
        for (int k : new int[] {0, 1, 2, 4, 259, 65535}) {
            refused("a field " + k, with(bytes, 24, k >> 8, k), 8, 24);
        }
        // The second field asks in vain, but the first is of another owner.
        Kit two = new Kit("F");
        two.ownField("f", 'N');
        two.ownField("g", 'N');
        byte[] both = two.bytes();
        int name = both.length - 10;
        refused("as they stand", with(with(both, name, 0, 2), name + 6, 0, 1), 9, name + 4);
    }

    /** "9 a field or member of another owner than the file": names are alike by their letters. */
    private static void otherOwner() {
        refused("a member's", with(simple(), 25, 0, 2), 9, 31);
        Kit kit = new Kit("F");
        kit.ownField("f", 'N');
        refused("a field's", with(kit.bytes(), 20, 0, 2), 9, 24);
        Kit twice = new Kit("F");
        twice.twice = true;
        twice.ownField("F", 'N');
        twice.own("F", "V", 0, 0, Kit.code().op(46));
        taken("another entry with the same letters", twice.bytes());
        // F and FF, F and f.
        taken("a name that is longer, somewhere", new Kit("F").own("FF", "V", 0, 0, Kit.code().op(46)).bytes());
        Kit longer = new Kit("F");
        int entry = longer.member("FF", "m", "V");
        refused("an owner that begins alike", longer.own(entry, 0, 0, new byte[] {46}).bytes(), 9, 8 + 3 + 4 + 3 + 3 + 7 + 6);
        Kit smaller = new Kit("F");
        int other = smaller.member("f", "m", "V");
        refused("an owner with a small letter", smaller.own(other, 0, 0, new byte[] {46}).bytes(), 9,
            8 + 3 + 3 + 3 + 3 + 7 + 6);
    }

    /** "10 a field with the name of an earlier one" */
    private static void fieldsTwice() {
        Kit same = new Kit("F");
        int f = same.ownField("f", 'N');
        same.ownField("g", 'N');
        byte[] bytes = same.bytes();
        refused("the very same", with(bytes, bytes.length - 4, 0, f), 10, bytes.length - 4);
        Kit kinds = new Kit("F");
        kinds.ownField("f", 'N');
        kinds.ownField("g", 'N');
        kinds.ownField("f", 'A');
        refused("of another kind", kinds.bytes(), 10, kinds.bytes().length - 4);
        Kit twice = new Kit("F");
        twice.twice = true;
        twice.ownField("f", 'N');
        twice.ownField("f", 'N');
        refused("another entry with the same letters", twice.bytes(), 10, twice.bytes().length - 4);
        Kit other = new Kit("F");
        other.ownField("f", 'N');
        other.ownField("ff", 'N');
        other.ownField("f1", 'N');
        other.ownField("F", 'N');
        other.field("F", "f", 'A');
        other.field("G", "f", 'N');
        taken("others, and a pool with more of that name", other.bytes());
    }

    /** "11 a member with the name and the parameters' kinds of an earlier one" */
    private static void membersTwice() {
        Kit.Code fails = Kit.code().op(1, 0).op(47);
        String[] earlier = {"NN", "N", "AANV", "NANNANNAV"};
        String[] later = {"NV", "A", "AANA", "NANNANNAN"};
        for (int i = 0; i < earlier.length; i++) {
            Kit kit = new Kit("F").own("m", earlier[i], 8, 1, fails).own("m", later[i], 8, 1, fails);
            refused(earlier[i] + " and " + later[i], kit.bytes(), 11, kit.bytes().length - 9);
        }
        String[] others = {"V", "NV", "AV", "NNV", "NAV", "ANV", "AAV", "NNNNNNNNV", "NNNNNNNAV", "ANNNNNNNV"};
        Kit kit = new Kit("F");
        for (String kinds : others) {
            kit.own("m", kinds, 8, 1, fails);
        }
        taken("other kinds", kit.own("mm", "V", 0, 1, fails).bytes());
        Kit twice = new Kit("F");
        twice.twice = true;
        twice.own("m", "NV", 1, 1, fails);
        twice.own("k", "NV", 1, 1, fails);
        twice.own("m", "NV", 1, 1, fails);
        refused("other entries with the same letters and kinds", twice.bytes(), 11, twice.bytes().length - 9);
    }

    /** "how many FIELDS (0 .. 100)" */
    private static void howManyFields() {
        Kit kit = new Kit("F");
        for (int i = 0; i < 100; i++) {
            kit.ownField("f" + i, i % 2 == 0 ? 'N' : 'A');
        }
        SourceBack x = new SourceBack();
        Due.same("100 fields", Kit.take(x, kit.bytes()), 0);
        Due.same("fields", x.file(0, 2), 100);
        Due.same("field 98", x.field(0, 0, 98), 0);
        Due.same("field 99", x.field(0, 0, 99), -1);
        Due.throwing("field 100", IndexOutOfBoundsException.class, () -> x.field(0, 0, 100));
        int place = kit.bytes().length - 2 - 200 - 2;
        kit.ownField("f100", 'N');
        refused("101 fields", kit.bytes(), 4, place + 6 + 6);
        for (int n : new int[] {101, 256, 32768, 65535}) {
            refused(n + " fields", with(simple(), 27, n >> 8, n), 4, 27);
        }
    }

    /** "how many MEMBERS (0 .. 100)" */
    private static void howManyMembers() {
        Kit kit = new Kit("F");
        for (int i = 0; i < 100; i++) {
            kit.own("m" + i, "V", 0, 0, Kit.code().op(46));
        }
        SourceBack x = new SourceBack();
        Due.same("100 members", Kit.take(x, kit.bytes()), 0);
        Due.same("members", x.file(0, 3), 100);
        Due.same("member 99", x.member(0, 99, 3), 1);
        Due.same("member 100", x.member(0, 100, 3), -1);
        Due.same("call of 99", x.call(0, 0, 99, 0, 0), true);
        for (int n : new int[] {101, 256, 32768, 65535}) {
            refused(n + " members", with(simple(), 29, n >> 8, n), 4, 29);
        }
        refused("one fewer than told", with(simple(), 29, 0, 2), 1, simple().length);
    }

    /** "LOCALS (not fewer than parameters, at most 60)" */
    private static void locals() {
        Kit.Code fails = Kit.code().op(1, 0).op(47);
        for (int n = 0; n <= 8; n++) {
            byte[] bytes = new Kit("F").own("m", "N".repeat(n) + "V", n, 1, fails).bytes();
            taken(n + " locals for " + n + " parameters", bytes);
            if (n > 0) {
                refused("one fewer", with(bytes, bytes.length - 7, n - 1), 4, bytes.length - 7);
            }
        }
        for (int n : new int[] {61, 127, 128, 255}) {
            refused(n + " locals", with(simple(), 33, n), 4, 33);
        }
        SourceBack x = new SourceBack();
        Due.same("60 locals", Kit.take(x, with(simple(), 33, 60)), 0);
        Due.same("member(0, 0, 1)", x.member(0, 0, 1), 60);
    }

    /** "PILE (0 .. 60)" */
    private static void pile() {
        for (int n : new int[] {61, 127, 128, 255}) {
            refused("a pile of " + n, with(simple(), 34, n), 4, 34);
        }
        SourceBack x = new SourceBack();
        Due.same("a pile of 60", Kit.take(x, with(simple(), 34, 60)), 0);
        Due.same("member(0, 0, 2)", x.member(0, 0, 2), 60);
        taken("a pile of 0", new Kit("F").own("m", "V", 0, 0, Kit.code().op(46)).bytes());
    }

    /** "how many bytes of CODE (1 .. 4000)" */
    private static void bytesOfCode() {
        for (int n : new int[] {0, 4001, 32768, 65535}) {
            refused(n + " bytes", with(simple(), 35, n >> 8, n), 4, 35);
        }
        byte[] code = new byte[4000];
        code[3999] = 46;
        Kit kit = new Kit("F");
        SourceBack x = new SourceBack();
        Due.same("4000 bytes", Kit.take(x, kit.own(kit.member("F", "m", "V"), 0, 0, code).bytes()), 0);
        Due.same("bytes", x.member(0, 0, 3), 4000);
        Due.same("acts", x.member(0, 0, 4), 4000);
        Due.same("reached", x.member(0, 0, 5), 4000);
        taken("one byte", new Kit("F").own("m", "V", 0, 0, Kit.code().op(46)).bytes());
        refused("more than the tape has", with(simple(), 35, 15, 0xA0), 1, simple().length);
    }

    /** "12 an op that is none" */
    private static void noSuchOp() {
        for (int op : new int[] {48, 49, 127, 128, 255}) {
            refused("op " + op, file(1, 1, Kit.code().op(0).op(op)), 12, 38);
            refused("op " + op + ", the tape ends behind it", cut(file(1, 1, Kit.code().op(0).op(op).op(0)), 39), 12, 38);
        }
        taken("op 47", file(1, 1, Kit.code().op(4, 0).op(47)));
        refused("unreached, too", file(1, 1, Kit.code().op(4, 0).op(45).op(48)), 12, 40);
    }

    /** How many bytes each act has, a switch without keys. */
    private static final int[] SIZES = {
        1, 2, 3, 1, 2, 2, 3, 3, 3, 1, 1, 1, 1, 1, 1, 1, 1, 1, 1, 1, 1, 1, 1, 1,
        1, 1, 1, 1, 3, 3, 3, 3, 3, 3, 3, 3, 3, 3, 3, 3, 3, 3, 3, 4, 3, 1, 1, 1};

    /** "or an act that goes beyond its code (if the tape has all of its code ..)": another member stands behind. */
    private static void beyondItsCode() {
        for (int op = 0; op < 48; op++) {
            for (int n = 1; n < SIZES[op]; n++) {
                byte[] code = new byte[2 + n];
                code[2] = (byte) op;
                Kit kit = new Kit("F");
                kit.own(kit.member("F", "m", "V"), 0, 0, code);
                byte[] alone = kit.bytes();
                refused("op " + op + ", " + n + " bytes", alone, 12, alone.length - n);
                byte[] behind = Arrays.copyOf(alone, alone.length + 20);
                refused("op " + op + ", more bytes on the tape", behind, 12, alone.length - n);
            }
        }
        byte[] keys = {43, 0, 0, 2, 0, 0, 0, 0, 0, 0, 0, 0, 0, 0, 0};
        Kit kit = new Kit("F");
        kit.own(kit.member("F", "m", "V"), 0, 0, keys);
        refused("a key too few", kit.bytes(), 12, kit.bytes().length - keys.length);
        Kit header = new Kit("F");
        header.own(header.member("F", "m", "V"), 0, 0, new byte[] {0, 43, 0, 0, 1});
        byte[] bytes = header.bytes();
        refused("no key at all", bytes, 12, bytes.length - 4);
        refused("no key at all, but more of the tape", Arrays.copyOf(bytes, bytes.length + 9), 12, bytes.length - 4);
    }

    /** "else 1", "an act whose bytes end with the tape, too" */
    private static void endsWithTheTape() {
        for (int op = 0; op < 48; op++) {
            for (int n = 1; n < SIZES[op]; n++) {
                byte[] code = new byte[2 + SIZES[op]];
                code[2] = (byte) op;
                Kit kit = new Kit("F");
                kit.own(kit.member("F", "m", "V"), 0, 0, code);
                byte[] bytes = kit.bytes();
                int length = bytes.length - SIZES[op] + n;
                refused("op " + op + ", " + n + " bytes", cut(bytes, length), 1, length);
            }
        }
        // The act goes beyond its code, but the tape has not all of that either.
        byte[] code = {0, 43, 0, 0, 9, 0, 0, 0, 0, 0, 0, 0};
        Kit kit = new Kit("F");
        kit.own(kit.member("F", "m", "V"), 0, 0, code);
        byte[] bytes = kit.bytes();
        refused("a switch beyond its code", bytes, 12, bytes.length - 11);
        for (int n = 1; n < 11; n++) {
            refused("and the tape ends", cut(bytes, bytes.length - n), 1, bytes.length - n);
        }
    }

    /** "8 (at what asks)": in code at the act's first. 1 F, 2 m, 3 sign, 4 member. */
    private static void actsAsking() {
        int[] asking = {2, 7, 8, 44};
        for (int op : asking) {
            for (int k : new int[] {0, 1, 2, 3, 5, 260, 65535}) {
                refused("op " + op + " asks for " + k, file(1, 1, Kit.code().op(0).of(op, k).op(45)), 8, 38);
            }
        }
        refused("2 asks for a member", file(1, 1, Kit.code().of(2, 4).op(45)), 8, 37);
        refused("unreached, too", file(1, 1, Kit.code().op(4, 0).op(45).of(2, 4)), 8, 40);
        Kit kit = new Kit("F");
        int number = kit.number(1000);
        for (int i = 0; i < 260; i++) {
            kit.sign("V");
            kit.twice = true;
        }
        kit.twice = false;
        int far = kit.number(2000);
        Due.same("an entry above 255", far > 255, true);
        kit.own("m", "N", 0, 1, Kit.code().of(2, far).op(45));
        SourceBack x = new SourceBack();
        Due.same("take", Kit.take(x, kit.bytes()), 0);
        x.call(0, 0, 0, 0, 0);
        x.steps(0, 9);
        Due.same("its number", x.state(0, 1), 2000);
        Due.same("another number", x.entry(0, number, 1), 1000);
    }

    /** "13 a local that is not there" */
    private static void localsOfActs() {
        for (int n : new int[] {1, 2, 59, 60, 255}) {
            for (int locals : new int[] {1, 2, 60}) {
                boolean there = n < locals;
                byte[] sets = file(locals, 1, Kit.code().op(4, 0).op(5, n).op(4, 0).op(45));
                Due.same("5 " + n + " of " + locals, Kit.take(new SourceBack(), sets), there ? 0 : told(13, 39));
                byte[] loads = file(locals, 1, Kit.code().op(4, 0).op(45).op(4, n).op(45));
                Due.same("4 " + n + " of " + locals, Kit.take(new SourceBack(), loads), there ? 0 : told(13, 40));
                byte[] grows = file(locals, 1, Kit.code().op(4, 0).op(45).op(6, n, 1).op(45));
                Due.same("6 " + n + " of " + locals, Kit.take(new SourceBack(), grows), there ? 0 : told(13, 40));
            }
        }
        byte[] none = new Kit("F").own("m", "V", 0, 1, Kit.code().op(4, 0).op(20).op(46)).bytes();
        refused("without locals", none, 13, none.length - 4);
    }

    private static Kit.Code switching(String goals) {
        return Kit.code().op(4, 0).choose(goals).at("a").op(4, 0).op(45);
    }

    /** "14 switch keys that don't rise, or more than 40 (behind 12 and 1 of that act)" */
    private static void keys() {
        taken("no keys", file(1, 1, switching("a")));
        taken("one key", file(1, 1, switching("a -1:a")));
        taken("from the least to the most", file(1, 1, switching("a -2147483648:a -1:a 0:a 1:a 2147483647:a")));
        String[] wrong = {"a 1:a 1:a", "a 2:a 1:a", "a 0:a -1:a", "a 2147483647:a -2147483648:a", "a 1:a 2:a 3:a 3:a",
            "a 1:a 2:a 1:a"};
        for (String one : wrong) {
            refused(one, file(1, 1, switching(one)), 14, 39);
        }
        StringBuilder keys = new StringBuilder("a");
        for (int i = 0; i < 40; i++) {
            keys.append(" ").append(i).append(":a");
        }
        taken("40 keys", file(1, 1, switching(keys.toString())));
        refused("41 keys", file(1, 1, switching(keys + " 40:a")), 14, 39);
        byte[] more = file(1, 1, switching(keys + " 40:a"));
        refused("41 keys, and the tape ends in them", cut(more, more.length - 4), 1, more.length - 4);
        byte[] beyond = file(1, 1, Kit.code().op(4, 0).op(43, 0, 0, 41).op(0).op(0));
        refused("41 keys beyond the code", beyond, 12, 39);
        refused("unreached, too", file(1, 1, Kit.code().op(4, 0).op(45).choose("0 1:0 1:0")), 14, 40);
    }

    /** "Behind them: 15 bytes behind the end (at the first)" */
    private static void bytesBehind() {
        byte[] good = simple();
        refused("one byte", cut(good, good.length + 1), 15, good.length);
        refused("many bytes", cut(good, good.length + 300), 15, good.length);
        refused("behind a file without members", cut(new Kit("F").bytes(), 18), 15, 17);
        // Ahead of 16 and what comes behind it.
        byte[] stray = file(1, 1, Kit.code().go(42, "1"));
        refused("a jump that strays", stray, 16, 37);
        refused("15 ahead of 16", cut(stray, stray.length + 1), 15, stray.length);
    }

    /** "24 a file with that name is in the set (at the name; behind all else)" */
    private static void sameName() {
        SourceBack x = new SourceBack();
        Due.same("the first", Kit.take(x, simple()), 0);
        Due.same("the same", Kit.take(x, simple()), told(24, 25));
        Due.same("another one of that name", Kit.take(x, new Kit("F").bytes()), told(24, 11));
        byte[] falls = file(1, 1, Kit.code().op(4, 0));
        Due.same("22 ahead of 24", Kit.take(x, falls), told(22, 37));
        Due.same("15 ahead of 24", Kit.take(x, cut(simple(), simple().length + 1)), told(15, simple().length));
        Due.same("files", x.count(1), 1);
        String[] others = {"f", "FF", "F_", "F1"};
        for (int i = 0; i < others.length; i++) {
            Due.same(others[i], Kit.take(x, new Kit(others[i]).bytes()), 1 + i);
        }
    }

    /** "25 it has 16 files (at place 0; ahead of all else)" */
    private static void fullSet() {
        SourceBack x = new SourceBack();
        for (int i = 0; i < 16; i++) {
            Due.same("file " + i, Kit.take(x, new Kit("F" + i).bytes()), i);
        }
        Due.same("files", x.count(1), 16);
        Due.same("a seventeenth", Kit.take(x, new Kit("G").bytes()), told(25, 0));
        Due.same("of a name that is there", Kit.take(x, new Kit("F3").bytes()), told(25, 0));
        Due.same("an empty tape", x.take(), told(25, 0));
        Due.same("no file at all", Kit.take(x, new byte[] {1, 2, 3, 4, 5}), told(25, 0));
        Due.same("files", x.count(1), 16);
        Due.same("the last one", x.file(15, 1), 1);
        Due.same("none behind it", x.file(16, 1), -1);
    }

    /** A file as long as a tape may be, and rules at its end; so many bytes need more than 512 calls. */
    private static void longestTape() {
        Kit kit = new Kit("F");
        for (int m = 0; m < 16; m++) {
            kit.own("m" + m, "V", 0, 0, Kit.code().op(46));
        }
        // A member's code of one byte becomes one of 4000, and the last one's as long as is left.
        byte[] small = kit.bytes();
        int left = 65536 - small.length;
        Kit large = new Kit("F");
        for (int m = 0; m < 16; m++) {
            int more = m == 15 ? 0 : Math.min(3999, left);
            left -= more;
            byte[] code = new byte[1 + more];
            code[more] = 46;
            large.own(large.member("F", "m" + m, "V"), 0, 0, code);
        }
        large.twice = true;
        while (left > 0) {
            int n = left > 62 ? 30 : left > 32 ? left / 2 - 2 : left - 2;
            large.name("a".repeat(n));
            left -= n + 2;
        }
        byte[] bytes = large.bytes();
        Due.same("bytes", bytes.length, 65536);
        SourceBack x = new SourceBack();
        Due.same("take", Kit.take(x, bytes), 0);
        Due.same("bytes", x.file(0, 4), 65536);
        Due.same("the last byte", x.byteAt(0, 0, 65535), 46);
        Due.same("behind it", x.byteAt(0, 0, 65536), -1);
        refused("the last act falls", with(bytes, 65535, 0), 22, 65535);
        refused("the last op is none", with(bytes, 65535, 48), 12, 65535);
        refused("one byte fewer", cut(bytes, 65535), 1, 65535);
    }

    /** "reading goes from left to right; of one place the least" */
    private static void leastOfOnePlace() {
        // Both are told at the member's number: of another owner (9), and told already (11).
        Kit kit = new Kit("F").own("m", "V", 0, 0, Kit.code().op(46));
        int other = kit.member("G", "m", "V");
        byte[] bytes = kit.own(other, 0, 0, new byte[] {46}).bytes();
        refused("9 ahead of 11", bytes, 9, bytes.length - 7);
        Kit fields = new Kit("F");
        fields.ownField("f", 'N');
        fields.ownField("g", 'N');
        int far = fields.field("G", "f", 'N');
        byte[] both = fields.bytes();
        refused("9 ahead of 10", with(both, both.length - 4, 0, far), 9, both.length - 4);
        refused("4 ahead of 1", cut(with(simple(), 27, 0, 101), 29), 4, 27);
        refused("3 ahead of 4", with(simple(), 4, 0, 0, 0, 0), 3, 4);
    }
}
