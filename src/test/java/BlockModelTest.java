import java.util.ArrayList;
import java.util.Arrays;
import java.util.List;
import java.util.Random;
import java.util.TreeSet;

/** Terms 4 and 5 on random codes: reached acts, kinds and blocks against a plain model of the document's words. */
public final class BlockModelTest {
    private static final int LOCALS = 5;

    private final Random r;
    private final List<int[]> acts = new ArrayList<>();
    /** Of each act: the labels that it goes to, a switch's d first. */
    private final List<int[]> goals = new ArrayList<>();
    private final List<Integer> labels = new ArrayList<>();
    private int[] at;
    /** The kinds of locals ahead of an act, null if it is not reached. */
    private int[][] kinds;
    private int[] blockOf;
    private final List<Integer> firsts = new ArrayList<>();
    private final List<List<Integer>> ways = new ArrayList<>();
    private final List<Integer> left = new ArrayList<>();
    private int[] order;

    private BlockModelTest(long seed) {
        r = new Random(seed);
    }

    public static void main(String[] args) {
        int knotted = 0;
        int plain = 0;
        for (long seed = 1; seed <= 600; seed++) {
            BlockModelTest model = new BlockModelTest(seed);
            SourceBack x = new SourceBack();
            Due.same("seed " + seed + ", take", Kit.take(x, model.file()), 0);
            model.flow();
            model.blocks();
            boolean knot = model.compare("seed " + seed + ", ", x);
            knotted += knot ? 1 : 0;
            plain += knot ? 0 : 1;
        }
        Due.same("both kinds of members", knotted > 50 && plain > 50, true);
        Due.end();
    }

    private void act(int[] goal, int... bytes) {
        acts.add(bytes);
        goals.add(goal);
    }

    private void label(int i) {
        while (labels.size() <= i) {
            labels.add(0);
        }
        labels.set(i, acts.size());
    }

    private byte[] file() {
        int n = 2 + r.nextInt(9);
        for (int i = 0; i < n; i++) {
            label(i);
            for (int k = r.nextInt(3); k > 0; k--) {
                statement();
            }
            int goal = r.nextInt(n);
            switch (r.nextInt(8)) {
                case 0: act(new int[] {goal}, 42, 0, 0); break;
                case 1: act(new int[0], 46); break;
                case 2:
                    act(new int[0], 4, 0);
                    act(new int[] {goal, r.nextInt(n), r.nextInt(n), r.nextInt(n)}, 43, 0, 0, 3, 255, 255, 255, 255, 0, 0,
                        0, 0, 0, 0, 0, 0, 0, 0, 0, 7, 0, 0);
                    break;
                case 3: break;
                default:
                    act(new int[0], 4, 0);
                    act(new int[] {goal}, 34 + r.nextInt(6), 0, 0);
                    break;
            }
        }
        act(new int[0], 46);
        at = new int[acts.size() + 1];
        for (int i = 0; i < acts.size(); i++) {
            at[i + 1] = at[i] + acts.get(i).length;
        }
        return new Kit("F").own("m", "NAV", LOCALS, 2, code()).bytes();
    }

    private void statement() {
        int local = 2 + r.nextInt(3);
        switch (r.nextInt(5)) {
            case 0: act(new int[0], 0); break;
            case 1: act(new int[0], 6, 0, 1); break;
            case 2:
                act(new int[0], 4, 1);
                act(new int[0], 5, local);
                break;
            case 3:
                act(new int[0], 4, 1);
                act(new int[0], 20);
                break;
            default:
                act(new int[0], 1, 9);
                act(new int[0], 5, local);
                break;
        }
    }

    private Kit.Code code() {
        Kit.Code code = Kit.code();
        for (int i = 0; i < acts.size(); i++) {
            int[] bytes = acts.get(i).clone();
            for (int g = 0; g < goals.get(i).length; g++) {
                int place = at[labels.get(goals.get(i)[g])];
                int p = g == 0 ? 1 : 2 + 6 * g;
                bytes[p] = place >> 8;
                bytes[p + 1] = place & 255;
            }
            code.op(bytes);
        }
        return code;
    }

    private int op(int i) {
        return acts.get(i)[0];
    }

    private boolean falls(int i) {
        return op(i) < 42;
    }

    /** Goes on while something is new anywhere; the order of it does not matter for what is known in the end. */
    private void flow() {
        kinds = new int[acts.size()][];
        kinds[0] = new int[] {1, 2, 0, 0, 0};
        boolean changed = true;
        while (changed) {
            changed = false;
            for (int i = acts.size() - 1; i >= 0; i--) {
                if (kinds[i] == null) {
                    continue;
                }
                int[] now = kinds[i].clone();
                if (op(i) == 5) {
                    now[acts.get(i)[1]] = op(i - 1) == 4 ? 2 : 1;
                }
                for (int goal : goals.get(i)) {
                    changed = arrive(labels.get(goal), now) || changed;
                }
                if (falls(i)) {
                    changed = arrive(i + 1, now) || changed;
                }
            }
        }
    }

    private boolean arrive(int i, int[] now) {
        if (kinds[i] == null) {
            kinds[i] = now.clone();
            return true;
        }
        boolean changed = false;
        for (int k = 0; k < LOCALS; k++) {
            if (kinds[i][k] != now[k] && kinds[i][k] != 3) {
                kinds[i][k] = 3;
                changed = true;
            }
        }
        return changed;
    }

    private void blocks() {
        TreeSet<Integer> begins = new TreeSet<>();
        begins.add(0);
        for (int i = 0; i < acts.size(); i++) {
            if (kinds[i] != null && op(i) >= 28) {
                begins.add(i + 1);
                for (int goal : goals.get(i)) {
                    begins.add(labels.get(goal));
                }
            }
        }
        blockOf = new int[acts.size()];
        Arrays.fill(blockOf, -1);
        for (int begin : begins) {
            if (begin < acts.size() && kinds[begin] != null) {
                Integer next = begins.higher(begin);
                Arrays.fill(blockOf, begin, next == null ? acts.size() : Math.min(next, acts.size()), firsts.size());
                firsts.add(begin);
            }
        }
        for (int b = 0; b < firsts.size(); b++) {
            int last = firsts.get(b);
            while (last + 1 < acts.size() && blockOf[last + 1] == b) {
                last++;
            }
            ways.add(waysOf(last));
        }
        leave(0, new boolean[firsts.size()]);
        order = new int[firsts.size()];
        for (int i = 0; i < left.size(); i++) {
            order[left.get(i)] = left.size() - 1 - i;
        }
    }

    private List<Integer> waysOf(int last) {
        List<Integer> ends = new ArrayList<>();
        int[] goal = goals.get(last);
        if (op(last) == 43) {
            int d = blockOf[labels.get(goal[0])];
            for (int k = 1; k < goal.length; k++) {
                int end = blockOf[labels.get(goal[k])];
                if (end != d && !ends.contains(end)) {
                    ends.add(end);
                }
            }
            ends.add(d);
            return ends;
        }
        if (goal.length > 0) {
            ends.add(blockOf[labels.get(goal[0])]);
        }
        if (falls(last)) {
            ends.add(blockOf[last + 1]);
        }
        return ends;
    }

    private void leave(int b, boolean[] met) {
        met[b] = true;
        for (int end : ways.get(b)) {
            if (!met[end]) {
                leave(end, met);
            }
        }
        left.add(b);
    }

    /** Whether every row of ways from the first block to y goes through x. */
    private boolean rules(int x, int y) {
        boolean[] met = new boolean[firsts.size()];
        met[x] = true;
        List<Integer> open = new ArrayList<>();
        if (x != 0) {
            open.add(0);
            met[0] = true;
        }
        while (!open.isEmpty()) {
            for (int end : ways.get(open.remove(open.size() - 1))) {
                if (!met[end]) {
                    met[end] = true;
                    open.add(end);
                }
            }
        }
        return x == y || !met[y];
    }

    private int parent(int y) {
        int parent = -1;
        for (int x = 0; x < firsts.size(); x++) {
            if (x != y && rules(x, y)) {
                parent = Math.max(parent, order[x]);
            }
        }
        return parent;
    }

    private boolean compare(String seed, SourceBack x) {
        int n = firsts.size();
        int[] heads = new int[n];
        int[] entered = new int[n];
        boolean knotted = false;
        for (int b = 0; b < n; b++) {
            for (int end : ways.get(b)) {
                if (order[end] > order[b]) {
                    entered[end]++;
                } else {
                    heads[end] = 1;
                    knotted = knotted || !rules(end, b);
                }
            }
        }
        Due.same(seed + "acts", x.member(0, 0, 4), acts.size());
        Due.same(seed + "blocks", x.member(0, 0, 6), n);
        Due.same(seed + "knotted", x.member(0, 0, 7), knotted ? 1 : 0);
        for (int b = 0; b < n; b++) {
            String block = seed + "block " + order[b] + ", ";
            Due.same(block + "byte", x.block(0, 0, order[b], 0), at[firsts.get(b)]);
            Due.same(block + "parent", x.block(0, 0, order[b], 1), parent(b));
            Due.same(block + "head", x.block(0, 0, order[b], 2), heads[b]);
            Due.same(block + "met", x.block(0, 0, order[b], 3), entered[b] > 1 ? 1 : 0);
            Due.same(block + "ways", x.block(0, 0, order[b], 4), ways.get(b).size());
            for (int w = 0; w < ways.get(b).size(); w++) {
                Due.same(block + "way " + w, x.block(0, 0, order[b], 5 + w), order[ways.get(b).get(w)]);
            }
            Due.same(block + "no more ways", x.block(0, 0, order[b], 5 + ways.get(b).size()), -1);
        }
        compareActs(seed, x);
        return knotted;
    }

    private void compareActs(String seed, SourceBack x) {
        int reached = 0;
        for (int i = 0; i < acts.size(); i++) {
            String act = seed + "act " + i + ", ";
            boolean known = kinds[i] != null;
            reached += known ? 1 : 0;
            Due.same(act + "byte", x.act(0, 0, i, 0), at[i]);
            Due.same(act + "reached", x.act(0, 0, i, 2), known ? 1 : 0);
            Due.same(act + "block", x.act(0, 0, i, 4), blockOf[i] < 0 ? -1 : order[blockOf[i]]);
            for (int local = 2; local < LOCALS; local++) {
                Due.same(act + "local " + local, x.kind(0, 0, i, local), known ? kinds[i][local] : -1);
            }
        }
        Due.same(seed + "reached", x.member(0, 0, 5), reached);
    }
}
