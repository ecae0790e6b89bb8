import java.util.ArrayList;
import java.util.Arrays;
import java.util.List;
import java.util.Random;

/** Terms 2 to 4 on spoilt files and on random acts: take against a plain model that reads from left to right. */
public final class TakeModelTest {
    /** What each act takes, from below: N, A, x for any. */
    private static final String[] TAKES = {
        "", "", "", "", "", "x", "", "", "", "NN", "NN", "NN", "NN", "NN", "NN", "NN", "NN", "NN", "NN", "N", "x", "x", "xx",
        "xx", "N", "AN", "ANN", "A", "NN", "NN", "NN", "NN", "NN", "NN", "N", "N", "N", "N", "N", "N", "A", "A", "", "N", "",
        "x", "", "N"};

    /** What stops the reading. */
    private static final class Refused extends RuntimeException {
        private static final long serialVersionUID = 1;
        final int told;

        Refused(int rule, int place) {
            told = -1 - (rule + 32 * place);
        }
    }

    private static final class Member {
        int sign;
        int locals;
        int pile;
        final List<Integer> acts = new ArrayList<>();
        int start;
    }

    private final byte[] bytes;
    private int at;
    private final List<Integer> entries = new ArrayList<>();
    /** What an act is known to begin with: N, A, B (BOTH) or - for each local, a blank, the pile; null if not reached. */
    private String[] known;
    private boolean changed;

    private TakeModelTest(byte[] bytes) {
        this.bytes = bytes;
    }

    public static void main(String[] args) {
        int[] told = new int[32];
        Random r = new Random(3);
        for (int i = 0; i < 60000; i++) {
            byte[] bytes = i % 2 == 0 ? acts(r) : RoundTripTest.file(1 + r.nextInt(200));
            for (int k = r.nextInt(3); k > 0 && (i % 2 == 1 || r.nextInt(3) == 0); k--) {
                bytes = spoilt(bytes, r);
            }
            int due = new TakeModelTest(bytes).told();
            told[due < 0 ? (-1 - due) % 32 : 0]++;
            Due.same("file " + i + " " + (bytes.length > 120 ? "" : Arrays.toString(bytes)), Kit.take(new SourceBack(), bytes), due);
        }
        boolean enough = true;
        for (int rule = 0; rule <= 23; rule++) {
            enough = enough && told[rule] > 10;
        }
        Due.same("all rules: " + Arrays.toString(told), enough, true);
        Due.end();
    }

    /** Some acts at random; most jumps go to an act. */
    private static byte[] acts(Random r) {
        Kit kit = new Kit("F");
        int f = kit.ownField("f", 'N');
        int g = kit.ownField("g", 'A');
        int number = kit.number(1000);
        int[] members = {kit.member("G", "a", "NAN"), kit.member("G", "b", "V"), kit.member("G", "c", "AA")};
        int n = 2 + r.nextInt(9);
        Kit.Code code = Kit.code();
        for (int i = 0; i < n; i++) {
            code.at("a" + i);
            int op = r.nextInt(3) == 0 ? 4 : r.nextInt(5) == 0 ? 42 : r.nextInt(48);
            String goal = r.nextInt(12) == 0 ? "" + r.nextInt(20) : "a" + r.nextInt(n);
            if (op == 43) {
                code.choose(goal + " -1:a" + r.nextInt(n) + " " + r.nextInt(30) + ":a" + r.nextInt(n));
            } else if (op >= 28 && op <= 42) {
                code.go(op, goal);
            } else if (op == 1 || op == 4 || op == 5) {
                code.op(op, r.nextInt(4));
            } else if (op == 6) {
                code.op(6, r.nextInt(4), 1);
            } else if (op == 2 || op == 7 || op == 8 || op == 44) {
                code.of(op, op == 2 ? number : op == 44 ? members[r.nextInt(3)] : r.nextBoolean() ? f : g);
            } else {
                code.op(op);
            }
        }
        String[] signs = {"NAN", "NAV", "NAA", "V", "N", "NNN"};
        String sign = signs[r.nextInt(signs.length)];
        if (r.nextInt(3) > 0) {
            code = sign.endsWith("V") ? code.op(46) : sign.endsWith("A") ? code.op(3).op(45) : code.op(1, 1).op(45);
        }
        if (r.nextInt(8) == 0) {
            kit.own("m", signs[r.nextInt(signs.length)], 2, 1, Kit.code().op(1, 1).op(47));
        }
        return kit.own("m", sign, 3 + r.nextInt(2), r.nextInt(4), code).bytes();
    }

    private static byte[] spoilt(byte[] bytes, Random r) {
        if (bytes.length == 0) {
            return bytes;
        }
        int place = r.nextInt(3) == 0 ? r.nextInt(Math.min(40, bytes.length)) : r.nextInt(bytes.length);
        byte[] other = bytes.clone();
        switch (r.nextInt(6)) {
            case 0: return Arrays.copyOf(bytes, place);
            case 1: return Arrays.copyOf(bytes, bytes.length + 1 + r.nextInt(3));
            case 2:
                other[place] = (byte) r.nextInt(256);
                return other;
            case 3:
                other[place] += (byte) (r.nextBoolean() ? 1 : -1);
                return other;
            case 4:
                other[place] = bytes[r.nextInt(bytes.length)];
                return other;
            default:
                other[place] = (byte) r.nextInt(50);
                return other;
        }
    }

    private int told() {
        try {
            read();
            return 0;
        } catch (Refused refused) {
            return refused.told;
        }
    }

    private int byteAt(int p) {
        return bytes[p] & 255;
    }

    private int pair(int p) {
        return byteAt(p) << 8 | byteAt(p + 1);
    }

    private int key(int p) {
        return pair(p) << 16 | pair(p + 2);
    }

    /** A number of n bytes; the last two of them are enough for what is asked of it. */
    private int number(int n) {
        if (at + n > bytes.length) {
            throw new Refused(1, bytes.length);
        }
        int value = n == 1 ? byteAt(at) : n == 4 ? key(at) : pair(at + n - 2);
        at += n;
        return value;
    }

    private int number(int n, int rule, int least, int most) {
        int place = at;
        int value = number(n);
        if (value < least || value > most) {
            throw new Refused(rule, place);
        }
        return value;
    }

    private int tag(int k) {
        return k < 1 || k > entries.size() ? 0 : byteAt(entries.get(k - 1));
    }

    private int asked(int tag) {
        int place = at;
        int k = number(2);
        if (tag(k) != tag) {
            throw new Refused(8, place);
        }
        return k;
    }

    /** The letters of a NAME, the kinds of a SIGN, with the result's at the end. */
    private String letters(int k) {
        int from = entries.get(k - 1);
        int n = byteAt(from + 1) + (byteAt(from) == 3 ? 1 : 0);
        return new String(bytes, from + 2, n, java.nio.charset.StandardCharsets.ISO_8859_1);
    }

    /** What the i-th number of an entry asks for. */
    private int asks(int k, int i) {
        return pair(entries.get(k - 1) + 1 + 2 * i);
    }

    private void read() {
        if (number(4) != 0xB007F11E) {
            throw new Refused(2, 0);
        }
        number(2, 3, 1, 9);
        int n = number(2, 4, 1, 2000);
        for (int k = 0; k < n; k++) {
            entry();
        }
        for (int p : entries) {
            for (int i = 0; i < (byteAt(p) == 4 ? 2 : byteAt(p) == 5 ? 3 : 0); i++) {
                if (tag(pair(p + 1 + 2 * i)) != (i == 2 ? 3 : 1)) {
                    throw new Refused(8, p + 1 + 2 * i);
                }
            }
        }
        String name = letters(asked(1));
        List<String> fields = new ArrayList<>();
        for (int i = number(2, 4, 0, 100); i > 0; i--) {
            int place = at;
            int k = asked(4);
            told(place, 9, !letters(asks(k, 0)).equals(name));
            told(place, 10, fields.contains(letters(asks(k, 1))));
            fields.add(letters(asks(k, 1)));
        }
        List<String> names = new ArrayList<>();
        List<Member> members = new ArrayList<>();
        for (int i = number(2, 4, 0, 100); i > 0; i--) {
            int place = at;
            int k = asked(5);
            String kinds = letters(asks(k, 2));
            String whole = letters(asks(k, 1)) + " " + kinds.substring(0, kinds.length() - 1);
            told(place, 9, !letters(asks(k, 0)).equals(name));
            told(place, 11, names.contains(whole));
            names.add(whole);
            members.add(member(asks(k, 2), kinds.length() - 1));
        }
        told(at, 15, at < bytes.length);
        for (Member one : members) {
            follow(one);
        }
    }

    private static void told(int place, int rule, boolean broken) {
        if (broken) {
            throw new Refused(rule, place);
        }
    }

    private void entry() {
        int place = at;
        entries.add(place);
        int tag = number(1);
        told(place, 5, tag < 1 || tag > 5);
        if (tag == 1) {
            int n = number(1, 6, 1, 30);
            for (int i = 0; i < n; i++) {
                int c = number(1);
                boolean digit = c >= '0' && c <= '9';
                told(at - 1, 6, !(c >= 'a' && c <= 'z' || c >= 'A' && c <= 'Z' || c == '_' || digit && i > 0));
            }
        } else if (tag == 2) {
            number(8);
        } else if (tag == 3) {
            int n = number(1, 7, 0, 8);
            for (int i = 0; i <= n; i++) {
                int c = number(1);
                told(at - 1, 7, c != 'N' && c != 'A' && !(c == 'V' && i == n));
            }
        } else {
            number(2);
            number(2);
            int c = tag == 5 ? number(2) : number(1);
            told(at - 1, 7, tag == 4 && c != 'N' && c != 'A');
        }
    }

    private Member member(int sign, int parameters) {
        Member one = new Member();
        one.sign = sign;
        one.locals = number(1, 4, parameters, 60);
        one.pile = number(1, 4, 0, 60);
        int end = number(2, 4, 1, 4000);
        one.start = at;
        end += at;
        while (at < end) {
            one.acts.add(at);
            act(end, one.locals);
        }
        return one;
    }

    private int size(int p) {
        int op = byteAt(p);
        if (op == 43) {
            return 4 + 6 * byteAt(p + 3);
        }
        return op == 1 || op == 4 || op == 5 ? 2 : op == 2 || op >= 6 && op <= 8 || op >= 28 && op <= 44 ? 3 : 1;
    }

    private void act(int end, int locals) {
        told(bytes.length, 1, at >= bytes.length);
        int op = byteAt(at);
        told(at, 12, op > 47);
        int most = Math.min(end, bytes.length);
        int behind = op == 43 && at + 4 > most ? at + 4 : at + size(at);
        told(at, 12, behind > end && end <= bytes.length);
        told(bytes.length, 1, behind > bytes.length);
        if (op == 2 || op == 7 || op == 8 || op == 44) {
            told(at, 8, tag(pair(at + 1)) != (op == 2 ? 2 : op == 44 ? 5 : 4));
        }
        told(at, 13, op >= 4 && op <= 6 && byteAt(at + 1) >= locals);
        for (int k = 1; op == 43 && k < byteAt(at + 3); k++) {
            told(at, 14, key(at + 4 + 6 * k) <= key(at - 2 + 6 * k));
        }
        told(at, 14, op == 43 && byteAt(at + 3) > 40);
        at = behind;
    }

    /** The acts that a jump or switch goes to (-1: to none), then the act behind; as they stand. */
    private List<Integer> ends(Member one, int i) {
        List<Integer> ends = new ArrayList<>();
        int p = one.acts.get(i);
        int op = byteAt(p);
        if (op >= 28 && op <= 43) {
            ends.add(one.acts.indexOf(one.start + pair(p + 1)));
        }
        for (int k = 0; op == 43 && k < byteAt(p + 3); k++) {
            ends.add(one.acts.indexOf(one.start + pair(p + 8 + 6 * k)));
        }
        return ends;
    }

    private void follow(Member one) {
        for (int i = 0; i < one.acts.size(); i++) {
            told(one.acts.get(i), 16, ends(one, i).contains(-1));
        }
        known = new String[one.acts.size()];
        String kinds = letters(one.sign);
        known[0] = kinds.substring(0, kinds.length() - 1) + "-".repeat(one.locals - kinds.length() + 1) + " ";
        changed = true;
        while (changed) {
            changed = false;
            for (int i = 0; i < known.length; i++) {
                if (known[i] != null) {
                    step(one, i, kinds.charAt(kinds.length() - 1));
                }
            }
        }
    }

    private void step(Member one, int i, char result) {
        int p = one.acts.get(i);
        int op = byteAt(p);
        String locals = known[i].substring(0, one.locals);
        String pile = known[i].substring(one.locals + 1);
        String called = op == 44 ? letters(asks(pair(p + 1), 2)) : "";
        char field = op == 7 || op == 8 ? (char) byteAt(entries.get(pair(p + 1) - 1) + 5) : ' ';
        String takes = op == 44 ? called.substring(0, called.length() - 1) : op == 8 ? "" + field : TAKES[op];
        told(p, 17, pile.length() < takes.length());
        String taken = pile.substring(pile.length() - takes.length());
        pile = pile.substring(0, pile.length() - takes.length());
        told(p, 18, op == 45 && taken.charAt(0) != result || op == 46 && result != 'V');
        for (int k = 0; k < takes.length(); k++) {
            told(p, 19, takes.charAt(k) != 'x' && takes.charAt(k) != taken.charAt(k));
        }
        int local = op >= 4 && op <= 6 ? byteAt(p + 1) : 0;
        char kind = locals.isEmpty() ? '-' : locals.charAt(local);
        told(p, 20, op == 4 && kind != 'N' && kind != 'A' || op == 6 && kind != 'N');
        pile += puts(op, kind, field, taken, called);
        told(p, 21, pile.length() > one.pile);
        boolean falls = op < 42 || op == 44;
        told(p, 22, falls && i + 1 == one.acts.size());
        told(p, 23, op >= 28 && op <= 43 && pile.length() > 1);
        if (op == 5) {
            locals = locals.substring(0, local) + taken + locals.substring(local + 1);
        }
        List<Integer> ends = ends(one, i);
        if (falls) {
            ends.add(i + 1);
        }
        for (int end : ends) {
            told(p, 23, !arrive(end, locals, pile));
        }
    }

    private static String puts(int op, char local, char field, String taken, String called) {
        if (op == 1 || op == 2 || op >= 9 && op <= 19 || op == 25 || op == 27) {
            return "N";
        }
        if (op == 3 || op == 24) {
            return "A";
        }
        switch (op) {
            case 4: return "" + local;
            case 7: return "" + field;
            case 21: return taken + taken;
            case 22: return "" + taken.charAt(1) + taken.charAt(0);
            case 23: return taken.charAt(1) + taken;
            case 44: return called.endsWith("V") ? "" : called.substring(called.length() - 1);
            default: return "";
        }
    }

    private boolean arrive(int i, String locals, String pile) {
        String was = known[i];
        if (was == null) {
            known[i] = locals + " " + pile;
            changed = true;
            return true;
        }
        if (!was.substring(locals.length() + 1).equals(pile)) {
            return false;
        }
        StringBuilder now = new StringBuilder();
        for (int k = 0; k < locals.length(); k++) {
            now.append(was.charAt(k) == locals.charAt(k) ? locals.charAt(k) : 'B');
        }
        known[i] = now + " " + pile;
        changed = changed || !known[i].equals(was);
        return true;
    }
}
