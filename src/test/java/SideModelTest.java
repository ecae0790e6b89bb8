import java.util.ArrayList;
import java.util.Arrays;
import java.util.List;
import java.util.Random;

/**
 * Terms 11, promises 14 and 17 to 23 on random runs of calls: files that ask for one another, stepped on both sides, edited and
 * undone, against a plain model. What was made of a file (side 1) is read by byteAt; other tests look at how it is made.
 */
public final class SideModelTest {
    private static final String[] NAMES = {"F", "G", "H"};

    /** A file as its bytes say it. */
    static final class House {
        final byte[] bytes;
        /** Of entries: "F.f:N" of a field, "F.m(NA)V" of a member, a name, a sign, a number. */
        final String[] pool;
        final String name;
        final List<String> fields = new ArrayList<>();
        final List<String> members = new ArrayList<>();
        final List<byte[]> codes = new ArrayList<>();

        House(byte[] all) {
            bytes = all;
            int n = pair(6);
            int[] places = new int[n + 2];
            pool = new String[n + 1];
            places[1] = 8;
            for (int k = 1; k <= n; k++) {
                int at = places[k];
                int tag = all[at];
                places[k + 1] = at + (tag == 1 ? 2 + all[at + 1] : tag == 2 ? 9 : tag == 3 ? 3 + all[at + 1] : tag == 4 ? 6 : 7);
                pool[k] = tag > 3 ? null : tag == 2 ? Long.toString(number(at + 1)) : word(at + 2, places[k + 1]);
            }
            for (int k = 1; k <= n; k++) {
                int at = places[k];
                if (all[at] == 4) {
                    pool[k] = pool[pair(at + 1)] + "." + pool[pair(at + 3)] + ":" + (char) all[at + 5];
                } else if (all[at] == 5) {
                    String sign = pool[pair(at + 5)];
                    int last = sign.length() - 1;
                    pool[k] = pool[pair(at + 1)] + "." + pool[pair(at + 3)] + "(" + sign.substring(0, last) + ")" + sign.charAt(last);
                }
            }
            int p = places[n + 1];
            name = pool[pair(p)];
            for (int i = 0; i < pair(p + 2); i++) {
                fields.add(pool[pair(p + 4 + 2 * i)]);
            }
            p += 4 + 2 * fields.size();
            int count = pair(p);
            p += 2;
            for (int m = 0; m < count; m++) {
                members.add(pool[pair(p)]);
                codes.add(Arrays.copyOfRange(all, p + 6, p + 6 + pair(p + 4)));
                p += 6 + pair(p + 4);
            }
        }

        int pair(int at) {
            return (bytes[at] & 255) << 8 | bytes[at + 1] & 255;
        }

        long number(int at) {
            return java.nio.ByteBuffer.wrap(bytes).getLong(at);
        }

        String word(int from, int to) {
            return new String(bytes, from, to - from, java.nio.charset.StandardCharsets.ISO_8859_1);
        }

        static int size(byte[] code, int at) {
            int op = code[at];
            return op == 43 ? 4 + 6 * code[at + 3] : op == 1 || op == 4 || op == 5 ? 2
                : op == 2 || op >= 6 && op <= 8 || op >= 28 && op <= 44 ? 3 : 1;
        }
    }

    /** A call that runs. */
    private static final class Frame {
        final int file;
        final int member;
        int at;
        final long[] locals = new long[60];
        final ArrayList<Long> pile = new ArrayList<>();

        Frame(int file, int member) {
            this.file = file;
            this.member = member;
        }

        long pop() {
            return pile.remove(pile.size() - 1);
        }
    }

    /** What makes a call fail. */
    private static final class Failed extends RuntimeException {
        private static final long serialVersionUID = 1;
        final int why;
        final long number;

        Failed(int why, long number) {
            this.why = why;
            this.number = number;
        }
    }

    /** One side. */
    private static final class Model {
        List<House> houses = new ArrayList<>();
        final List<long[]> fields = new ArrayList<>();
        final List<long[]> arrays = new ArrayList<>();
        final ArrayList<Frame> frames = new ArrayList<>();
        long[] state = {0, 0, 0, 0, 0, 0, -1, -1, -1};

        void anew(List<House> now) {
            houses = now;
            fields.clear();
            for (House house : now) {
                fields.add(house.fields.stream().mapToLong(said -> said.endsWith("A") ? -1 : 0).toArray());
            }
            arrays.clear();
            frames.clear();
            state = new long[] {0, 0, 0, 0, 0, 0, -1, -1, -1};
        }

        long array(long n) {
            long used = arrays.stream().mapToLong(one -> one.length).sum();
            if (n < 0 || n > 1000 || arrays.size() == 4000 || used + n > 40000) {
                throw new Failed(4, 0);
            }
            arrays.add(new long[(int) n]);
            return arrays.size() - 1;
        }

        boolean call(int f, int m, long a, long b) {
            if (f < 0 || f >= houses.size() || m < 0 || m >= houses.get(f).members.size() || state[0] == 1) {
                return false;
            }
            Frame first = new Frame(f, m);
            state = new long[] {1, 0, 0, 0, 0, 0, -1, -1, -1};
            try {
                String kinds = kinds(houses.get(f).members.get(m));
                for (int i = 0; i < kinds.length() - 1; i++) {
                    first.locals[i] = i % 2 == 0 ? a : b;
                    if (kinds.charAt(i) == 'A') {
                        first.locals[i] = array(4);
                        long[] made = arrays.get(arrays.size() - 1);
                        made[0] = a;
                        made[1] = b;
                        made[2] = a + b;
                        made[3] = i;
                    }
                }
                frames.add(first);
            } catch (Failed failed) {
                state[0] = 3;
                state[2] = failed.why;
            }
            tell();
            return true;
        }

        static String kinds(String member) {
            return member.substring(member.indexOf('(') + 1).replace(")", "");
        }

        int steps(int n) {
            int done = 0;
            while (done < n && state[0] == 1) {
                done++;
                state[4]++;
                try {
                    act(frames.get(frames.size() - 1));
                } catch (Failed failed) {
                    state[0] = 3;
                    state[2] = failed.why;
                    state[3] = failed.number;
                    frames.clear();
                }
            }
            tell();
            return done;
        }

        /** States 5 to 8. */
        private void tell() {
            Frame latest = frames.isEmpty() ? null : frames.get(frames.size() - 1);
            state[5] = frames.size();
            state[6] = latest == null ? -1 : latest.file;
            state[7] = latest == null ? -1 : latest.member;
            state[8] = -1;
            if (latest != null) {
                byte[] code = houses.get(latest.file).codes.get(latest.member);
                state[8] = 0;
                for (int p = 0; p < latest.at; p += House.size(code, p)) {
                    state[8]++;
                }
            }
        }

        private void act(Frame now) {
            House house = houses.get(now.file);
            byte[] code = house.codes.get(now.member);
            int at = now.at;
            int op = code[at];
            now.at += House.size(code, at);
            int one = at + 1 < code.length ? code[at + 1] & 255 : 0;
            int two = at + 2 < code.length ? one << 8 | code[at + 2] & 255 : 0;
            switch (op) {
                case 0: break;
                case 1: now.pile.add((long) code[at + 1]); break;
                case 2: now.pile.add(Long.parseLong(house.pool[two])); break;
                case 3: now.pile.add(-1L); break;
                case 4: now.pile.add(now.locals[one]); break;
                case 5: now.locals[one] = now.pop(); break;
                case 6: now.locals[one] += code[at + 2]; break;
                case 7:
                case 8: field(now, house.pool[two], op == 8); break;
                case 20: now.pop(); break;
                case 21: now.pile.add(now.pile.get(now.pile.size() - 1)); break;
                case 22: now.pile.add(now.pile.size() - 2, now.pop()); break;
                case 23: now.pile.add(now.pile.size() - 2, now.pile.get(now.pile.size() - 1)); break;
                case 24: now.pile.add(array(now.pop())); break;
                case 25:
                case 26:
                case 27: element(now, op); break;
                case 43: choose(now, code, at); break;
                case 44: enter(now, house.pool[two]); break;
                case 45: back(now.pop(), true); break;
                case 46: back(0, false); break;
                case 47: throw new Failed(7, now.pop());
                default:
                    if (op < 20) {
                        count(now, op);
                    } else if (goes(now, op)) {
                        now.at = two;
                    }
                    break;
            }
        }

        private int owner(String said) {
            for (int f = 0; f < houses.size(); f++) {
                if (said.startsWith(houses.get(f).name + ".")) {
                    return f;
                }
            }
            throw new Failed(5, 0);
        }

        private void field(Frame now, String said, boolean sets) {
            int f = owner(said);
            int i = houses.get(f).fields.indexOf(said);
            if (i < 0) {
                throw new Failed(5, 0);
            }
            if (sets) {
                fields.get(f)[i] = now.pop();
            } else {
                now.pile.add(fields.get(f)[i]);
            }
        }

        private void enter(Frame now, String said) {
            int f = owner(said);
            int m = houses.get(f).members.indexOf(said);
            if (m < 0) {
                throw new Failed(5, 0);
            }
            if (frames.size() == 60) {
                throw new Failed(6, 0);
            }
            Frame next = new Frame(f, m);
            for (int i = kinds(said).length() - 2; i >= 0; i--) {
                next.locals[i] = now.pop();
            }
            frames.add(next);
        }

        private void back(long given, boolean gives) {
            frames.remove(frames.size() - 1);
            if (frames.isEmpty()) {
                state[0] = 2;
                state[1] = given;
            } else if (gives) {
                frames.get(frames.size() - 1).pile.add(given);
            }
        }

        private void element(Frame now, int op) {
            long value = op == 26 ? now.pop() : 0;
            long index = op == 27 ? 0 : now.pop();
            long number = now.pop();
            if (number == -1) {
                throw new Failed(2, 0);
            }
            long[] array = arrays.get((int) number);
            if (op == 27) {
                now.pile.add((long) array.length);
            } else if (index < 0 || index >= array.length) {
                throw new Failed(3, 0);
            } else if (op == 25) {
                now.pile.add(array[(int) index]);
            } else {
                array[(int) index] = value;
            }
        }

        private static void count(Frame now, int op) {
            long y = now.pop();
            long x = op == 19 ? 0 : now.pop();
            if ((op == 12 || op == 13) && y == 0) {
                throw new Failed(1, 0);
            }
            int by = (int) (y & 63);
            now.pile.add(op == 9 ? x + y : op == 10 ? x - y : op == 11 ? x * y : op == 12 ? x / y : op == 13 ? x % y : op == 14 ? x & y
                : op == 15 ? x | y : op == 16 ? x ^ y : op == 17 ? x << by : op == 18 ? x >> by : -y);
        }

        private static boolean goes(Frame now, int op) {
            if (op == 42) {
                return true;
            }
            long y = op < 34 ? now.pop() : op < 40 ? 0 : -1;
            long x = now.pop();
            int order = Long.compare(x, y);
            switch (op) {
                case 28: case 34: case 40: return order == 0;
                case 29: case 35: case 41: return order != 0;
                case 30: case 36: return order < 0;
                case 31: case 37: return order <= 0;
                case 32: case 38: return order > 0;
                default: return order >= 0;
            }
        }

        private static void choose(Frame now, byte[] code, int at) {
            java.nio.ByteBuffer read = java.nio.ByteBuffer.wrap(code);
            long value = now.pop();
            now.at = read.getShort(at + 1);
            for (int k = 0; k < code[at + 3]; k++) {
                if (read.getInt(at + 4 + 6 * k) == value) {
                    now.at = read.getShort(at + 8 + 6 * k);
                }
            }
        }
    }

    private final SourceBack x = new SourceBack();
    private final Random r;
    private final String seed;
    private final Model[] sides = {new Model(), new Model()};
    /** What each file was ahead of the edits that can be undone. */
    private final List<List<byte[]>> past = new ArrayList<>();
    private int begun;
    private static final int[] ENDS = new int[11];

    private SideModelTest(long seed) {
        r = new Random(seed);
        this.seed = "seed " + seed;
    }

    public static void main(String[] args) {
        for (long seed = 1; seed <= 400; seed++) {
            new SideModelTest(seed).run();
        }
        boolean all = true;
        for (int i = 0; i <= 7; i++) {
            all = all && ENDS[i] > 5;
        }
        Due.same("calls came back, and failed in every way " + Arrays.toString(ENDS), all && ENDS[8] > 50 && ENDS[9] > 50, true);
        Due.end();
    }

    private void run() {
        for (int i = 0; i < NAMES.length; i++) {
            for (int tries = 0; tries < 9 && x.count(1) == past.size(); tries++) {
                take(NAMES[i]);
            }
            for (int n = 0; n < 14; n++) {
                some();
            }
        }
        for (int n = 0; n < 60; n++) {
            some();
        }
    }

    private void take(String name) {
        int before = x.count(1);
        int told = Kit.take(x, RoundTripTest.file(r.nextLong(), name, "F", "F", "G", "G", "H", "J"));
        Due.same(seed + ": files", x.count(1), told < 0 ? before : before + 1);
        if (told >= 0) {
            Due.same(seed + ": take", told, before);
            past.add(new ArrayList<>());
            anew();
        }
    }

    /** Both sides begin anew, with the files as they are now. */
    private void anew() {
        for (int side = 0; side < 2; side++) {
            List<House> now = new ArrayList<>();
            for (int f = 0; f < x.count(1); f++) {
                byte[] bytes = Kit.bytes(x, f, side);
                now.add(new House(bytes == null ? Kit.bytes(x, f, 0) : bytes));
            }
            sides[side].anew(now);
        }
        look();
    }

    private void some() {
        int side = r.nextInt(2);
        int f = r.nextInt(past.size() + 1);
        switch (r.nextInt(24)) {
            case 0:
                x.settle();
                anew();
                break;
            case 1:
                edit(f);
                break;
            case 2:
                undo(f);
                break;
            case 3: case 4: case 5: case 6: case 7: case 8: case 9: case 10:
                call(side, f, r.nextInt(9) == 0 ? r.nextInt(6) - 1 : 0);
                break;
            default:
                steps(side, r.nextInt(3) == 0 ? 4000 : 1 + r.nextInt(30));
                break;
        }
        look();
    }

    private void edit(int f) {
        String text = f == past.size() ? "void m() { }" : Kit.text(x, f, r.nextInt(4));
        byte[] was = Kit.bytes(x, f, 0);
        int m = r.nextInt(4);
        int told = text == null ? 1 : Kit.edit(x, f, m, text);
        Due.same(seed + ": the tape", x.count(0), 0);
        if (told == 0) {
            List<byte[]> kept = past.get(f);
            kept.add(was);
            if (kept.size() > 8) {
                kept.remove(0);
            }
            ENDS[8]++;
            anew();
        } else {
            Due.same(seed + ": edit that is refused", f == past.size() || Arrays.equals(was, Kit.bytes(x, f, 0)), true);
        }
    }

    private void undo(int f) {
        boolean can = f < past.size() && !past.get(f).isEmpty();
        Due.same(seed + ": undo", x.undo(f), can);
        if (can) {
            byte[] was = past.get(f).remove(past.get(f).size() - 1);
            Due.same(seed + ": undone", Kit.bytes(x, f, 0), was);
            ENDS[9]++;
            anew();
        }
    }

    private void call(int side, int f, int m) {
        long a = r.nextLong() >> r.nextInt(64);
        long b = r.nextInt(3) == 0 ? r.nextInt(2000) - 500 : r.nextInt(8) - 2;
        boolean began = sides[side].call(f, m, a, b);
        begun += began ? 1 : 0;
        Due.same(seed + ": call", x.call(side, f, m, a, b), began);
    }

    private void steps(int side, int n) {
        if (sides[side].state[0] != 1) {
            Due.throwing(seed + ": steps", IllegalStateException.class, () -> x.steps(side, n));
            return;
        }
        Due.same(seed + ": steps", x.steps(side, n), sides[side].steps(n));
        int ended = (int) sides[side].state[0];
        if (ended != 1) {
            ENDS[ended == 2 ? 0 : (int) sides[side].state[2]]++;
        }
    }

    private void look() {
        Due.same(seed + ": calls begun", x.count(4), begun);
        for (int side = 0; side < 2; side++) {
            Model model = sides[side];
            for (int what = 0; what < 9; what++) {
                Due.same(seed + ": state(" + side + ", " + what + ")", x.state(side, what), model.state[what]);
            }
            for (int f = 0; f < past.size(); f++) {
                Due.same(seed + ": edits", x.file(f, 6), past.get(f).size());
                for (int i = 0; i < 2; i++) {
                    Due.same(seed + ": field(" + side + ", " + f + ", " + i + ")", x.field(side, f, i), model.fields.get(f)[i]);
                }
            }
            Due.same(seed + ": arrays", x.count(2 + side), model.arrays.size());
            for (int n = 0; n < Math.min(20, model.arrays.size()); n++) {
                int array = r.nextInt(model.arrays.size());
                long[] want = model.arrays.get(array);
                Due.same(seed + ": elements", x.element(side, array, -1), want.length);
                int i = want.length == 0 ? 0 : r.nextInt(want.length);
                if (i < want.length) {
                    Due.same(seed + ": element(" + side + ", " + array + ", " + i + ")", x.element(side, array, i), want[i]);
                }
            }
        }
    }
}
