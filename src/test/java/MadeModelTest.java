import java.util.ArrayList;
import java.util.List;
import java.util.Random;

/**
 * Terms 10 and 11, promises 5, 7, 15 and 16 on random files: the made file byte by byte, what came of making a member again, and
 * members of two files compared, against a plain model.
 */
public final class MadeModelTest {
    private static final String[] OWNERS = {"F", "F", "G", "J"};

    public static void main(String[] args) {
        int[] made = new int[2];
        int[] again = new int[3];
        int[] alike = new int[3];
        for (long seed = 1; seed <= 3000; seed++) {
            SourceBack x = new SourceBack();
            Random r = new Random(seed);
            long code = r.nextLong();
            if (Kit.take(x, file(code, "F", r)) < 0) {
                continue;
            }
            made[made("seed " + seed, x, 0)]++;
            for (int m = 0; m < 4; m++) {
                int told = again("seed " + seed + ", member " + m, x, m);
                again[Math.max(0, told)]++;
            }
            Kit.take(x, r.nextInt(3) > 0 ? file(code, r.nextBoolean() ? "G" : "J", new Random(seed)) : file(r.nextLong(), "G", r));
            String text = Kit.text(x, 0, 0);
            Due.same("two files", x.count(1), 2);
            if (text != null && r.nextBoolean()) {
                Kit.edit(x, r.nextInt(2), 0, text);
            }
            for (int m = 0; m < 4; m++) {
                alike[alike("seed " + seed + ", member " + m, x, m)]++;
            }
        }
        Due.same("files with a made one, and without", made[1] > 500 && made[0] > 20, true);
        Due.same("made again in every way", again[0] > 100 && again[1] > 100 && again[2] > 100, true);
        Due.same("alike in every way", alike[0] > 50 && alike[1] > 50 && alike[2] > 50, true);
        Due.end();
    }

    private static byte[] file(long code, String name, Random r) {
        return r.nextInt(3) == 0 ? RoundTripTest.file(code, name) : RoundTripTest.file(code, name, OWNERS);
    }

    private static SideModelTest.House house(SourceBack x, int f) {
        return new SideModelTest.House(Kit.bytes(x, f, 0));
    }

    /** "of the file itself among its own fields and members, else .. in its pool, the entry of the least number" */
    private static void know(SideModelTest.House house) {
        JudgeModelTest.forget();
        for (List<String> own : List.of(house.fields, house.members)) {
            for (String said : own) {
                JudgeModelTest.know(said, java.util.Arrays.asList(house.pool).indexOf(said));
            }
        }
        for (int k = 1; k < house.pool.length; k++) {
            if (house.pool[k].contains(".")) {
                JudgeModelTest.know(house.pool[k], k);
            }
        }
    }

    private static int entry(Kit kit, String said) {
        String owner = said.substring(0, said.indexOf('.'));
        int bracket = said.indexOf('(');
        if (bracket < 0) {
            return kit.field(owner, said.substring(said.indexOf('.') + 1, said.indexOf(':')), said.charAt(said.length() - 1));
        }
        return kit.member(owner, said.substring(said.indexOf('.') + 1, bracket), said.substring(bracket + 1).replace(")", ""));
    }

    /** 1 if there is a made file, which is then as it should be. */
    private static int made(String what, SourceBack x, int f) {
        List<String> texts = new ArrayList<>();
        SideModelTest.House house = house(x, f);
        for (int m = 0; m < house.members.size(); m++) {
            texts.add(Kit.text(x, f, m));
        }
        if (texts.contains(null)) {
            Due.same(what + ", no made one", x.file(f, 5), -1);
            return 0;
        }
        know(house);
        Kit kit = new Kit(house.name);
        kit.version = x.file(f, 0);
        for (String said : house.fields) {
            kit.ownField(said.substring(said.indexOf('.') + 1, said.indexOf(':')), said.charAt(said.length() - 1));
        }
        for (String said : house.members) {
            entry(kit, said);
        }
        for (int m = 0; m < texts.size(); m++) {
            JudgeModelTest read = JudgeModelTest.read(texts.get(m));
            byte[] code = read.code(k -> entry(kit, house.pool[k]), kit::number);
            kit.own(entry(kit, house.members.get(m)), read.locals(), read.pile(), code);
        }
        Due.same(what + ", made one", Kit.bytes(x, f, 1), kit.bytes());
        Due.same(what + ", files with a made one", x.count(5), 1);
        return 1;
    }

    /** The acts of a code, with what their entries say. */
    private static List<String> acts(byte[] code, String[] pool) {
        List<String> all = new ArrayList<>();
        for (int at = 0; at < code.length; at += SideModelTest.House.size(code, at)) {
            int op = code[at];
            StringBuilder act = new StringBuilder().append(op);
            if (op == 2 || op == 7 || op == 8 || op == 44) {
                act.append(" ").append(pool[(code[at + 1] & 255) << 8 | code[at + 2] & 255]);
            } else {
                for (int i = 1; i < SideModelTest.House.size(code, at); i++) {
                    act.append(" ").append(code[at + i]);
                }
            }
            all.add(act.toString());
        }
        return all;
    }

    /** What member(0, m, 9) answers. */
    private static int again(String what, SourceBack x, int m) {
        SideModelTest.House house = house(x, 0);
        String text = Kit.text(x, 0, m);
        int told = x.member(0, m, 9);
        if (text == null) {
            Due.same(what + ", without a text", told, -1);
            return told;
        }
        know(house);
        List<String> pool = new ArrayList<>(java.util.Arrays.asList(house.pool));
        byte[] code = JudgeModelTest.read(text).code(k -> k, value -> {
            pool.add(Long.toString(value));
            return pool.size() - 1;
        });
        boolean same = acts(house.codes.get(m), house.pool).equals(acts(code, pool.toArray(new String[0])));
        Due.same(what + ", the same acts", told == 2, same);
        if (!same) {
            Due.same(what + ", the same text", told, textOfEdited(x, m, text).equals(text) ? 1 : 0);
        }
        return told;
    }

    /** The text of the member that is made of a text, by itself. */
    private static String textOfEdited(SourceBack x, int m, String text) {
        Due.same("edit", Kit.edit(x, 0, m, text), 0);
        String shown = Kit.text(x, 0, m);
        Due.same("undo", x.undo(0), true);
        return shown == null ? "" : shown;
    }

    /** What alike(0, m, 1) answers. */
    private static int alike(String what, SourceBack x, int m) {
        int told = x.alike(0, m, 1);
        SideModelTest.House house = house(x, 0);
        SideModelTest.House other = house(x, 1);
        Due.same(what + ", pair", x.pair(0, m, 1), m);
        String text = Kit.text(x, 0, m);
        boolean same = acts(house.codes.get(m), house.pool).equals(acts(other.codes.get(m), other.pool));
        Due.same(what + ", alike", told, same ? 2 : text != null && text.equals(Kit.text(x, 1, m)) ? 1 : 0);
        return told;
    }
}
