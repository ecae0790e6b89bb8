/** Promises 1 to 3: a new object, feed, and take with every rule and its place. */
public final class TakeTest {
    public static void main(String[] args) {
        newObject();
        feed();
        head();
        pool();
        fieldsAndMembers();
        code();
        flow();
        rounds();
        set();
        Due.end();
    }

    private static void newObject() {
        SourceBack x = new SourceBack();
        for (int what = 0; what < 6; what++) {
            Due.same("count(" + what + ")", x.count(what), 0);
        }
        Due.same("file(0, 0)", x.file(0, 0), -1);
        Due.same("state(0, 0)", x.state(0, 0), 0);
        Due.same("state(1, 6)", x.state(1, 6), -1);
        Due.same("NONE", SourceBack.NONE, -1);
    }

    private static void feed() {
        SourceBack x = new SourceBack();
        Due.same("feed(1, 0)", x.feed(1, 0), -1);
        Due.same("feed(1, 9)", x.feed(1, 9), -1);
        Due.same("feed(1, -1)", x.feed(1, -1), -1);
        Due.same("feed of 2", x.feed(0xFFFFB007L, 2), 2);
        Due.same("feed of 8", x.feed(-1, 8), 10);
        Due.same("count(0)", x.count(0), 10);
        // B007 FFFF..: the first four are wrong.
        Due.same("take", x.take(), told(2, 0));
        Due.same("the tape is empty", x.count(0), 0);
        SourceBack y = new SourceBack();
        for (int i = 0; i < 8191; i++) {
            y.feed(i, 8);
        }
        Due.same("feed up to 65535", y.feed(1, 7), 65535);
        Due.same("feed beyond", y.feed(1, 2), -1);
        Due.same("count(0)", y.count(0), 65535);
        Due.same("feed up to 65536", y.feed(1, 1), 65536);
        Due.same("feed beyond", y.feed(1, 1), -1);
        // i rises: the first eight bytes are 0.
        Due.same("take", y.take(), told(2, 0));
        Due.same("feed anew", y.feed(1, 1), 1);
    }

    private static int told(int rule, int place) {
        return -1 - (rule + 32 * place);
    }

    private static void refused(String what, byte[] bytes, int rule, int place) {
        SourceBack x = new SourceBack();
        int got = Kit.take(x, bytes);
        Due.same(what, got, told(rule, place));
        Due.same(what + ", files", x.count(1), 0);
        Due.same(what + ", tape", x.count(0), 0);
    }

    private static byte[] simple() {
        return new Kit("F").own("m", "NN", 1, 1, Kit.code().op(4, 0).op(45)).bytes();
    }

    private static byte[] with(byte[] bytes, int place, int... to) {
        byte[] changed = bytes.clone();
        for (int i = 0; i < to.length; i++) {
            changed[place + i] = (byte) to[i];
        }
        return changed;
    }

    private static byte[] cut(byte[] bytes, int length) {
        return java.util.Arrays.copyOf(bytes, length);
    }

    private static void head() {
        byte[] good = simple();
        Due.same("a good file", Kit.take(new SourceBack(), good), 0);
        for (int i = 0; i < good.length; i++) {
            refused("cut at " + i, cut(good, i), 1, i);
        }
        refused("first four", with(good, 3, 0x1F), 2, 0);
        refused("version 0", with(good, 4, 0, 0), 3, 4);
        refused("version 10", with(good, 4, 0, 10), 3, 4);
        Due.same("version 9", Kit.take(new SourceBack(), with(good, 4, 0, 9)), 0);
        refused("no entries", with(good, 6, 0, 0), 4, 6);
        refused("2001 entries", with(good, 6, 7, 0xD1), 4, 6);
        refused("2000 entries", with(good, 6, 7, 0xD0), 5, 25);
        refused("bytes behind", cut(good, good.length + 1), 15, good.length);
    }

    /** The bytes of simple(): 8 F, 11 m, 14 sign, 18 member, 25 name, 27 fields, 29 members, 31 member. */
    private static void pool() {
        byte[] good = simple();
        refused("tag 0", with(good, 8, 0), 5, 8);
        refused("tag 6", with(good, 11, 6), 5, 11);
        refused("a name of 0", with(good, 9, 0), 6, 9);
        refused("a name of 31", with(good, 9, 31), 6, 9);
        refused("a name with a digit first", with(good, 10, '1'), 6, 10);
        refused("a name with a blank", with(good, 10, ' '), 6, 10);
        Due.same("a name _", Kit.take(new SourceBack(), with(good, 10, '_')), 0);
        refused("a sign of 9", with(good, 15, 9), 7, 15);
        refused("a parameter V", with(good, 16, 'V'), 7, 16);
        refused("a result X", with(good, 17, 'X'), 7, 17);
        refused("a member's owner 0", with(good, 19, 0, 0), 8, 19);
        refused("a member's name 9", with(good, 21, 0, 9), 8, 21);
        refused("a member's sign a name", with(good, 23, 0, 1), 8, 23);
        refused("the file's name a sign", with(good, 25, 0, 3), 8, 25);
        // What an entry asks for is looked at behind the last entry only.
        refused("asking, and a tag behind it", with(with(good, 8, 7), 19, 0, 0), 5, 8);
        refused("asking, and the end behind the pool", cut(with(good, 19, 0, 0), 25), 8, 19);
        refused("asking, and the end within the pool", cut(with(good, 19, 0, 0), 24), 1, 24);
        // A field's kind is looked at where it stands.
        Kit kit = new Kit("F");
        kit.ownField("f", 'N');
        byte[] field = kit.bytes();
        refused("a field's kind V", with(field, 8 + 3 + 3 + 5, 'V'), 7, 19);
        refused("a field's owner a field", with(field, 15, 0, 3), 8, 15);
    }

    private static void fieldsAndMembers() {
        Kit kit = new Kit("F");
        kit.ownField("f", 'N');
        kit.ownField("f", 'A');
        // 8 F, 11 f, 14 field, 20 field, 26 name, 28 how many, 30 and 32 fields.
        refused("a field twice", kit.bytes(), 10, 32);
        refused("101 fields", with(kit.bytes(), 28, 0, 101), 4, 28);
        refused("a field that is a name", with(kit.bytes(), 30, 0, 1), 8, 30);
        refused("a field of another", with(kit.bytes(), 26, 0, 2), 9, 30);
        byte[] good = simple();
        refused("101 members", with(good, 29, 0, 101), 4, 29);
        refused("a member that is a sign", with(good, 31, 0, 3), 8, 31);
        refused("a member of another", with(good, 25, 0, 2), 9, 31);
        refused("no locals", with(good, 33, 0), 4, 33);
        refused("61 locals", with(good, 33, 61), 4, 33);
        Due.same("60 locals", Kit.take(new SourceBack(), with(good, 33, 60)), 0);
        refused("a pile of 61", with(good, 34, 61), 4, 34);
        refused("no code", with(good, 35, 0, 0), 4, 35);
        refused("4001 bytes of code", with(good, 35, 15, 0xA1), 4, 35);
        Kit same = new Kit("F");
        same.own("m", "NN", 1, 1, Kit.code().op(4, 0).op(45));
        int second = same.bytes().length + 7 + 3;
        same.own("m", "NV", 1, 1, Kit.code().op(46));
        // The second sign (4 bytes) and member (7) stand ahead of the second member.
        refused("a member twice", same.bytes(), 11, second + 1);
        Kit other = new Kit("F");
        other.own("m", "NN", 1, 1, Kit.code().op(4, 0).op(45));
        other.own("m", "AN", 1, 1, Kit.code().op(1, 0).op(45));
        Due.same("members of one name", Kit.take(new SourceBack(), other.bytes()), 0);
    }

    /** Code in a file with one member NN; its first byte stands at 37. */
    private static byte[] file(int locals, int pile, Kit.Code code) {
        return new Kit("F").own("m", "NN", locals, pile, code).bytes();
    }

    private static void code() {
        refused("op 48", file(1, 1, Kit.code().op(48)), 12, 37);
        refused("an act beyond its code", file(1, 1, Kit.code().op(0).op(4)), 12, 38);
        byte[] cut = cut(file(1, 1, Kit.code().op(0).op(2, 0, 1).op(0)), 40);
        refused("an act that ends with the tape", cut, 1, 40);
        refused("op 48 ahead of the end", cut(file(1, 1, Kit.code().op(48).op(0)), 38), 12, 37);
        refused("a number that is a name", file(1, 1, Kit.code().op(2, 0, 1).op(45)), 8, 37);
        refused("a field that is none", file(1, 1, Kit.code().op(0).op(7, 0, 0).op(45)), 8, 38);
        refused("a member that is none", file(1, 1, Kit.code().op(44, 0, 5).op(45)), 8, 37);
        refused("local 1 of 1", file(1, 1, Kit.code().op(4, 1).op(45)), 13, 37);
        refused("a step of local 1", file(1, 1, Kit.code().op(6, 1, 1).op(45)), 13, 37);
        Kit.Code falling = Kit.code().op(4, 0).choose("a 2:a 2:a").at("a").op(4, 0).op(45);
        refused("keys that don't rise", file(1, 1, falling), 14, 39);
        StringBuilder keys = new StringBuilder("a");
        for (int i = 0; i < 40; i++) {
            keys.append(" ").append(i - 20).append(":a");
        }
        Kit.Code many = Kit.code().op(4, 0).choose(keys.toString()).at("a").op(4, 0).op(45);
        Due.same("40 keys", Kit.take(new SourceBack(), file(1, 1, many)), 0);
        Kit.Code more = Kit.code().op(4, 0).choose(keys + " 99:a").at("a").op(4, 0).op(45);
        refused("41 keys", file(1, 1, more), 14, 39);
        refused("41 keys beyond the code", file(1, 1, Kit.code().op(43, 0, 0, 41, 0)), 12, 37);
    }

    private static void flow() {
        refused("a jump into an act", file(1, 1, Kit.code().op(4, 0).go(34, "1").op(4, 0).op(45)), 16, 39);
        refused("a jump behind the code", file(1, 1, Kit.code().go(42, "3")), 16, 37);
        Kit.Code key = Kit.code().op(4, 0).choose("0 1:3").op(45);
        refused("a key into an act", file(1, 1, key), 16, 39);
        refused("an unreached jump", file(1, 1, Kit.code().op(4, 0).op(45).go(42, "1")), 16, 40);
        refused("too few values", file(1, 1, Kit.code().op(4, 0).op(9).op(45)), 17, 39);
        refused("nothing to give", file(1, 1, Kit.code().op(45)), 17, 37);
        refused("an array given", file(1, 1, Kit.code().op(3).op(45)), 18, 38);
        refused("46 with a result", file(1, 1, Kit.code().op(46)), 18, 37);
        refused("45 without one", new Kit("F").own("m", "NV", 1, 1, Kit.code().op(4, 0).op(45)).bytes(), 18, 39);
        refused("a number as an array", file(1, 1, Kit.code().op(4, 0).op(27).op(45)), 19, 39);
        refused("an array as a number", file(1, 2, Kit.code().op(4, 0).op(3).op(9).op(45)), 19, 40);
        refused("an unset local", file(2, 1, Kit.code().op(4, 1).op(45)), 20, 37);
        refused("a step of an unset one", file(2, 1, Kit.code().op(6, 1, 1).op(4, 0).op(45)), 20, 37);
        refused("a step of an array", file(1, 1, Kit.code().op(3).op(5, 0).op(6, 0, 1).op(1, 0).op(45)), 20, 40);
        refused("too many values", file(1, 1, Kit.code().op(4, 0).op(21).op(9).op(45)), 21, 39);
        refused("a pile of 0", file(1, 0, Kit.code().op(4, 0).op(45)), 21, 37);
        refused("behind the last act", file(1, 1, Kit.code().op(4, 0)), 22, 37);
        refused("an if at the end", file(1, 1, Kit.code().op(4, 0).go(34, "0")), 22, 39);
        refused("two values below", file(1, 3, Kit.code().op(4, 0).op(21).op(21).go(34, "a").at("a").op(9).op(45)), 23, 41);
        refused("two values at a jump", file(1, 2, Kit.code().op(4, 0).op(21).go(42, "a").at("a").op(9).op(45)), 23, 40);
        refused("not as deep", file(1, 2, Kit.code().op(4, 0).go(34, "a").op(4, 0).at("a").op(4, 0).op(45)), 23, 42);
        Kit.Code kinds = Kit.code().op(4, 0).go(34, "a").op(3).go(42, "b").at("a").op(1, 5).at("b").op(20).op(4, 0).op(45);
        refused("of another kind", file(1, 1, kinds), 23, 46);
        // Of one act the least: too few values ahead of all else.
        refused("17 ahead of 18", new Kit("F").own("m", "NV", 1, 1, Kit.code().op(45)).bytes(), 17, 37);
        refused("19 ahead of 22", file(1, 1, Kit.code().op(3).op(19)), 19, 38);
        Kit other = new Kit("F").own("m", "NN", 1, 1, Kit.code().op(4, 0).op(45));
        other.own("o", "NN", 1, 1, Kit.code().op(4, 0));
        Due.same("the second member breaks a rule", Kit.take(new SourceBack(), other.bytes()) % 32, told(22, 0) % 32);
    }

    private static void rounds() {
        // Local 1 is N on one way, unset on the other: BOTH behind.
        Kit.Code both = Kit.code().op(4, 0).go(34, "a").op(1, 3).op(5, 1).at("a").op(4, 1).op(45);
        refused("a load of BOTH", file(2, 1, both), 20, 46);
        // The load is fine in the first round; the way back makes the local an array there.
        Kit.Code later = Kit.code().op(1, 1).op(5, 1).at("h").op(4, 1).op(20).op(3).op(5, 1).op(4, 0).go(34, "h").op(4, 0).op(45);
        refused("a load of BOTH in the second round", file(2, 1, later), 20, 41);
        // What is not reached breaks no rule of the rounds.
        Due.same("unreached", Kit.take(new SourceBack(), file(1, 1, Kit.code().op(4, 0).op(45).op(9).op(45).op(47))), 0);
    }

    private static void set() {
        SourceBack x = new SourceBack();
        Due.same("first", Kit.take(x, simple()), 0);
        Due.same("the same name", Kit.take(x, simple()), told(24, 25));
        byte[] bad = new Kit("F").own("m", "NN", 1, 1, Kit.code().op(4, 0)).bytes();
        Due.same("24 is behind all else", Kit.take(x, bad), told(22, 37));
        for (int i = 1; i < 16; i++) {
            Due.same("file " + i, Kit.take(x, new Kit("G" + i).bytes()), i);
        }
        Due.same("a seventeenth", Kit.take(x, new Kit("H").bytes()), told(25, 0));
        Due.same("nothing at all", x.take(), told(25, 0));
        Due.same("the tape is empty", x.count(0), 0);
        Due.same("files", x.count(1), 16);
    }
}
