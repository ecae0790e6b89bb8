import java.lang.reflect.Constructor;
import java.lang.reflect.Field;
import java.lang.reflect.Method;
import java.lang.reflect.Modifier;
import java.util.TreeSet;

/** The public face: what the document declares, and nothing else; and random calls that throw nothing else. */
public final class FaceTest {
    private static final String[] FACE = {
        "int feed(long,int)", "int take()", "int file(int,int)", "int byteAt(int,int,int)", "long entry(int,int,int)",
        "int member(int,int,int)", "int act(int,int,int,int)", "int kind(int,int,int,int)", "int block(int,int,int,int)",
        "int text(int,int,int)", "int judge(int)", "int edit(int,int)", "boolean undo(int)", "int pair(int,int,int)",
        "int alike(int,int,int)", "boolean call(int,int,int,long,long)", "int steps(int,int)", "long state(int,int)",
        "long field(int,int,int)", "long element(int,int,int)", "void settle()", "int count(int)"};

    public static void main(String[] args) {
        face();
        for (int seed = 1; seed <= 300; seed++) {
            anyCalls(seed);
        }
        Due.end();
    }

    private static void face() {
        TreeSet<String> got = new TreeSet<>();
        TreeSet<String> names = new TreeSet<>();
        for (Method m : SourceBack.class.getDeclaredMethods()) {
            if (Modifier.isPrivate(m.getModifiers()) || m.isSynthetic()) {
                continue;
            }
            StringBuilder s = new StringBuilder(m.getReturnType().getName()).append(" ").append(m.getName()).append("(");
            for (int i = 0; i < m.getParameterCount(); i++) {
                s.append(i > 0 ? "," : "").append(m.getParameterTypes()[i].getName());
            }
            got.add(s.append(")").toString());
            names.add(m.getName());
            Due.same(m + " is public", Modifier.isPublic(m.getModifiers()), true);
        }
        Due.same("methods", got.toString(), new TreeSet<>(java.util.List.of(FACE)).toString());
        int constants = 0;
        for (Field f : SourceBack.class.getDeclaredFields()) {
            if (!Modifier.isPrivate(f.getModifiers())) {
                Due.same("a constant", f.getName(), "NONE");
                constants++;
            }
        }
        Due.same("constants", constants, 1);
        Constructor<?>[] constructors = SourceBack.class.getDeclaredConstructors();
        Due.same("constructors", constructors.length, 1);
        Due.same("final", Modifier.isFinal(SourceBack.class.getModifiers()), true);
        for (Class<?> inner : SourceBack.class.getDeclaredClasses()) {
            Due.same(inner + " is static", Modifier.isStatic(inner.getModifiers()), true);
            for (Method m : inner.getDeclaredMethods()) {
                Due.same(m + " has a name of its own", names.contains(m.getName()), false);
            }
        }
    }

    /** Calls with arguments of every kind; only the exceptions of the document may come. */
    private static void anyCalls(int seed) {
        java.util.Random r = new java.util.Random(seed);
        SourceBack x = new SourceBack();
        Kit kit = new Kit("F");
        int f = kit.ownField("f", 'N');
        int g = kit.ownField("g", 'A');
        kit.own("m", "NAN", 4, 5, Kit.code().op(4, 0).op(21).of(8, f).op(24).of(8, g).at("h").op(6, 0, 255).op(4, 0)
            .go(38, "h").op(4, 0).op(45));
        kit.own("v", "V", 1, 2, Kit.code().of(44, kit.member("F", "v", "V")).op(46));
        byte[] bytes = kit.bytes();
        String[] texts = {"number m(number n, array r) { give n; }", "void v() { F.v(); }", "number m(number n, array r) {",
            "void v() { loop { F.f = F.f + 1; F.g = make(F.f); } }", "void v() { number x; x = x; }"};
        String thrown = "nothing";
        for (int i = 0; i < 512; i++) {
            try {
                anyCall(x, r, bytes, texts[r.nextInt(texts.length)]);
            } catch (IndexOutOfBoundsException | IllegalArgumentException | IllegalStateException e) {
                boolean own = e.getStackTrace()[0].getClassName().equals("SourceBack")
                    && e.getClass() != ArrayIndexOutOfBoundsException.class;
                String where = e.getStackTrace()[0].getMethodName();
                boolean fits = e instanceof IndexOutOfBoundsException ? "entry state field element".contains(where)
                    : where.equals("steps");
                if (!own || !fits) {
                    thrown = e + " in " + where;
                }
            } catch (RuntimeException | StackOverflowError e) {
                thrown = e + " in " + e.getStackTrace()[0];
            }
        }
        Due.same("seed " + seed + ": thrown", thrown, "nothing");
    }

    private static int any(java.util.Random r) {
        int[] odd = {-1, -2, 16, 100, Integer.MAX_VALUE, Integer.MIN_VALUE};
        return r.nextInt(6) == 0 ? odd[r.nextInt(odd.length)] : r.nextInt(r.nextInt(4) == 0 ? 12 : 3);
    }

    private static void anyCall(SourceBack x, java.util.Random r, byte[] bytes, String text) {
        switch (r.nextInt(24)) {
            case 0: x.feed(r.nextLong(), r.nextInt(10)); break;
            case 1: Kit.take(x, bytes); break;
            case 2:
                byte[] other = bytes.clone();
                other[r.nextInt(other.length)] = (byte) r.nextInt(r.nextBoolean() ? 48 : 256);
                Kit.take(x, other);
                break;
            case 3: x.file(any(r), any(r)); break;
            case 4: x.byteAt(any(r), any(r), any(r)); break;
            case 5: x.entry(any(r), any(r), any(r)); break;
            case 6: x.member(any(r), any(r), any(r)); break;
            case 7: x.act(any(r), any(r), any(r), any(r)); break;
            case 8: x.kind(any(r), any(r), any(r), any(r)); break;
            case 9: x.block(any(r), any(r), any(r), any(r)); break;
            case 10: x.text(any(r), any(r), any(r)); break;
            case 11: Kit.feed(x, text); x.judge(any(r)); break;
            case 12: Kit.feed(x, text); x.edit(any(r), any(r)); break;
            case 13: x.undo(any(r)); break;
            case 14: x.pair(any(r), any(r), any(r)); break;
            case 15: x.alike(any(r), any(r), any(r)); break;
            case 16: x.call(any(r), any(r), any(r), r.nextInt(50), r.nextLong()); break;
            case 17: x.steps(any(r), any(r)); break;
            case 18: x.steps(r.nextInt(2), 1 + r.nextInt(4000)); break;
            case 19: x.state(any(r), any(r)); break;
            case 20: x.field(any(r), any(r), any(r)); break;
            case 21: x.element(any(r), any(r), any(r)); break;
            case 22: x.count(any(r)); break;
            default: x.call(r.nextInt(2), 0, r.nextInt(2), r.nextInt(50), r.nextInt(50)); break;
        }
        if (r.nextInt(100) == 0) {
            x.settle();
        }
    }
}
