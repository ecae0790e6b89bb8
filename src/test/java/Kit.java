import java.io.ByteArrayOutputStream;
import java.util.ArrayList;
import java.util.LinkedHashMap;
import java.util.List;
import java.util.Map;

/** What the tests build files with, and how they compare answers. */
final class Kit {
    /** The code of one member: acts, and labels for what they go to. */
    static final class Code {
        private final List<int[]> acts = new ArrayList<>();
        private final Map<String, Integer> labels = new LinkedHashMap<>();
        private final List<String> goals = new ArrayList<>();
        private int length;

        Code at(String label) {
            labels.put(label, length);
            return this;
        }

        /** Raw bytes of one act. */
        Code op(int... bytes) {
            acts.add(bytes);
            goals.add("");
            length += bytes.length;
            return this;
        }

        /** An act with an entry. */
        Code of(int op, int entry) {
            return op(op, entry >> 8, entry & 255);
        }

        Code go(int op, String label) {
            acts.add(new int[] {op, 0, 0});
            goals.add(label);
            length += 3;
            return this;
        }

        /** The acts of another code behind these; its labels are those of this one. */
        Code add(Code other) {
            for (Map.Entry<String, Integer> label : other.labels.entrySet()) {
                labels.put(label.getKey(), length + label.getValue());
            }
            acts.addAll(other.acts);
            goals.addAll(other.goals);
            length += other.length;
            return this;
        }

        /** A switch: "d 1:a 5:b" goes to d, with 1 to a, with 5 to b. */
        Code choose(String goal) {
            String[] parts = goal.split(" ");
            int[] bytes = new int[4 + 6 * (parts.length - 1)];
            bytes[0] = 43;
            bytes[3] = parts.length - 1;
            for (int i = 1; i < parts.length; i++) {
                int key = Integer.parseInt(parts[i].split(":")[0]);
                for (int k = 0; k < 4; k++) {
                    bytes[4 + 6 * (i - 1) + k] = key >> (24 - 8 * k) & 255;
                }
            }
            acts.add(bytes);
            goals.add(goal);
            length += bytes.length;
            return this;
        }

        byte[] bytes() {
            byte[] all = new byte[length];
            int p = 0;
            for (int i = 0; i < acts.size(); i++) {
                int[] act = acts.get(i);
                for (int k = 0; k < act.length; k++) {
                    all[p + k] = (byte) act[k];
                }
                if (!goals.get(i).isEmpty()) {
                    String[] parts = goals.get(i).split(" ");
                    put(all, p + 1, parts[0]);
                    for (int k = 1; k < parts.length; k++) {
                        put(all, p + 8 + 6 * (k - 1), parts[k].split(":")[1]);
                    }
                }
                p += act.length;
            }
            return all;
        }

        private void put(byte[] all, int p, String label) {
            Integer place = labels.get(label);
            int goal = place == null ? Integer.parseInt(label) : place;
            all[p] = (byte) (goal >> 8);
            all[p + 1] = (byte) goal;
        }
    }

    private final ByteArrayOutputStream pool = new ByteArrayOutputStream();
    private final Map<String, Integer> entries = new LinkedHashMap<>();
    private final List<Integer> fields = new ArrayList<>();
    private final ByteArrayOutputStream members = new ByteArrayOutputStream();
    private int memberCount;
    private int count;
    private final int file;
    final String owner;
    int version = 1;
    /** Whether entries that are alike may be put again. */
    boolean twice;

    Kit(String name) {
        owner = name;
        file = name(name);
    }

    private int entry(String key, byte[] bytes) {
        Integer known = entries.get(key);
        if (known != null && !twice) {
            return known;
        }
        pool.writeBytes(bytes);
        count++;
        entries.put(key, count);
        return count;
    }

    int name(String name) {
        byte[] bytes = new byte[2 + name.length()];
        bytes[0] = 1;
        bytes[1] = (byte) name.length();
        for (int i = 0; i < name.length(); i++) {
            bytes[2 + i] = (byte) name.charAt(i);
        }
        return entry("1" + name, bytes);
    }

    int number(long value) {
        byte[] bytes = new byte[9];
        bytes[0] = 2;
        for (int i = 0; i < 8; i++) {
            bytes[1 + i] = (byte) (value >> (56 - 8 * i));
        }
        return entry("2" + value, bytes);
    }

    /** Parameters and result, such as "NAV". */
    int sign(String kinds) {
        byte[] bytes = new byte[2 + kinds.length()];
        bytes[0] = 3;
        bytes[1] = (byte) (kinds.length() - 1);
        for (int i = 0; i < kinds.length(); i++) {
            bytes[2 + i] = (byte) kinds.charAt(i);
        }
        return entry("3" + kinds, bytes);
    }

    int field(String of, String name, char kind) {
        int a = name(of);
        int b = name(name);
        return entry("4" + of + "." + name + kind,
            new byte[] {4, (byte) (a >> 8), (byte) a, (byte) (b >> 8), (byte) b, (byte) kind});
    }

    int member(String of, String name, String kinds) {
        int a = name(of);
        int b = name(name);
        int c = sign(kinds);
        return entry("5" + of + "." + name + kinds, new byte[] {
            5, (byte) (a >> 8), (byte) a, (byte) (b >> 8), (byte) b, (byte) (c >> 8), (byte) c});
    }

    int ownField(String name, char kind) {
        int k = field(owner, name, kind);
        fields.add(k);
        return k;
    }

    Kit own(String name, String kinds, int locals, int pile, Code code) {
        return own(member(owner, name, kinds), locals, pile, code.bytes());
    }

    Kit own(int entry, int locals, int pile, byte[] code) {
        members.writeBytes(new byte[] {(byte) (entry >> 8), (byte) entry, (byte) locals, (byte) pile,
            (byte) (code.length >> 8), (byte) code.length});
        members.writeBytes(code);
        memberCount++;
        return this;
    }

    byte[] bytes() {
        ByteArrayOutputStream all = new ByteArrayOutputStream();
        all.writeBytes(new byte[] {(byte) 0xB0, 7, (byte) 0xF1, 0x1E, 0, (byte) version, (byte) (count >> 8), (byte) count});
        all.writeBytes(pool.toByteArray());
        all.writeBytes(new byte[] {(byte) (file >> 8), (byte) file, 0, (byte) fields.size()});
        for (int k : fields) {
            all.writeBytes(new byte[] {(byte) (k >> 8), (byte) k});
        }
        all.writeBytes(new byte[] {0, (byte) memberCount});
        all.writeBytes(members.toByteArray());
        return all.toByteArray();
    }

    static Code code() {
        return new Code();
    }

    static void feed(SourceBack x, byte[] bytes) {
        int i = 0;
        while (i < bytes.length) {
            int n = Math.min(8, bytes.length - i);
            long v = 0;
            for (int k = 0; k < n; k++) {
                v = v << 8 | bytes[i + k] & 255;
            }
            x.feed(v, n);
            i += n;
        }
    }

    static void feed(SourceBack x, String text) {
        byte[] bytes = new byte[text.length()];
        for (int i = 0; i < bytes.length; i++) {
            bytes[i] = (byte) text.charAt(i);
        }
        feed(x, bytes);
    }

    static int take(SourceBack x, byte[] bytes) {
        feed(x, bytes);
        return x.take();
    }

    static int judge(SourceBack x, int f, String text) {
        feed(x, text);
        return x.judge(f);
    }

    static int edit(SourceBack x, int f, int m, String text) {
        feed(x, text);
        return x.edit(f, m);
    }

    /** A member's text, null without. */
    static String text(SourceBack x, int f, int m) {
        int n = x.member(f, m, 8);
        if (n < 0) {
            return null;
        }
        StringBuilder all = new StringBuilder();
        for (int i = 0; i < n; i++) {
            all.append((char) x.text(f, m, i));
        }
        return all.toString();
    }

    static byte[] bytes(SourceBack x, int f, int side) {
        int n = x.file(f, 4 + side);
        if (n < 0) {
            return null;
        }
        byte[] all = new byte[n];
        for (int i = 0; i < n; i++) {
            all[i] = (byte) x.byteAt(f, side, i);
        }
        return all;
    }
}
