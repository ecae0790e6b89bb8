/** Terms 11, promises 17 to 23: stepping at its edges, each failure, full rooms, and calls that are refused. */
public final class SideEdgeTest {
    public static void main(String[] args) {
        goingRound();
        dividing();
        shifting();
        comparing();
        keys();
        below();
        belowCalls();
        lastLocals();
        makingArrays();
        elements();
        arraysThatAreNone();
        fullOfElements();
        fullOfArrays();
        parametersWithoutRoom();
        parameters();
        sixtyCalls();
        notInTheSet();
        failing();
        effectsStay();
        begunCalls();
        refusedCalls();
        steps();
        statesOfCalls();
        fieldsAndElements();
        beginsAnew();
        refusedLetsRun();
        sides();
        counts();
        Due.end();
    }

    private static SourceBack with(Kit kit) {
        SourceBack x = new SourceBack();
        Due.same("take", Kit.take(x, kit.bytes()), 0);
        return x;
    }

    private static void state(String what, SourceBack x, int side, long... want) {
        for (int i = 0; i < want.length; i++) {
            Due.same(what + ", state(" + side + ", " + i + ")", x.state(side, i), want[i]);
        }
    }

    /** A member with numbers 0, 1 and 2 (a, b, a): what comes of it, on both sides. */
    private static void gives(String what, long a, long b, Kit.Code code, long want) {
        SourceBack x = with(new Kit("F").own("m", "NNNN", 4, 9, code));
        for (int side = 0; side < 2; side++) {
            x.call(side, 0, 0, a, b);
            x.steps(side, 4000);
            state(what, x, side, 2, want, 0, 0);
        }
    }

    /** Its failure, on both sides; on side 0 the steps, too. */
    private static void fails(String what, long a, long b, Kit.Code code, int failure, int steps) {
        SourceBack x = with(new Kit("F").own("m", "NNNN", 4, 9, code));
        for (int side = 0; side < 2; side++) {
            x.call(side, 0, 0, a, b);
            int done = x.steps(side, 4000);
            Due.same(what + ", steps", done, side == 0 ? steps : done);
            state(what, x, side, 3, 0, failure, 0, done, 0, -1, -1, -1);
        }
    }

    private static Kit.Code two(int op) {
        return Kit.code().op(4, 0).op(4, 1).op(op).op(45);
    }

    /** "NUMBERS of the machine have 64 bits and go round." */
    private static void goingRound() {
        long most = Long.MAX_VALUE;
        long least = Long.MIN_VALUE;
        gives("most + 1", most, 1, two(9), least);
        gives("least - 1", least, 1, two(10), most);
        gives("most * 2", most, 2, two(11), -2);
        gives("least * -1", least, -1, two(11), least);
        gives("- least", least, 0, Kit.code().op(4, 0).op(19).op(45), least);
        gives("a step above the most", most, 0, Kit.code().op(6, 0, 1).op(4, 0).op(45), least);
        gives("a step of 127", most, 0, Kit.code().op(6, 0, 127).op(4, 0).op(45), least + 126);
        gives("a step below the least", least, 0, Kit.code().op(6, 0, 128).op(4, 0).op(45), most - 127);
        // The third element of a parameter that is an array.
        SourceBack x = with(new Kit("F").own("m", "AV", 1, 0, Kit.code().op(46)));
        x.call(0, 0, 0, most, most);
        Due.same("a + b", x.element(0, 0, 2), -2);
    }

    /** "12 / 13 % (towards 0)", failure "1 / or % by 0" */
    private static void dividing() {
        long[][] pairs = {{7, 2}, {-7, 2}, {7, -2}, {-7, -2}, {0, 3}, {1, Long.MIN_VALUE}, {Long.MIN_VALUE, 1},
            {Long.MIN_VALUE, Long.MAX_VALUE}};
        long[] quotients = {3, -3, -3, 3, 0, 0, Long.MIN_VALUE, -1};
        long[] rests = {1, -1, 1, -1, 0, 1, 0, -1};
        for (int i = 0; i < pairs.length; i++) {
            gives("/", pairs[i][0], pairs[i][1], two(12), quotients[i]);
            gives("%", pairs[i][0], pairs[i][1], two(13), rests[i]);
        }
        gives("the least / -1", Long.MIN_VALUE, -1, two(12), Long.MIN_VALUE);
        gives("the least % -1", Long.MIN_VALUE, -1, two(13), 0);
        for (long a : new long[] {0, 1, -1, Long.MIN_VALUE}) {
            fails("/ 0", a, 0, two(12), 1, 3);
            fails("% 0", a, 0, two(13), 1, 3);
        }
    }

    /** "17 << 18 >> (by the six lowest bits)" */
    private static void shifting() {
        long[] by = {0, 1, 63, 64, 65, -1, -64, 128, Long.MIN_VALUE, 4294967296L};
        long[] left = {3, 6, Long.MIN_VALUE, 3, 6, Long.MIN_VALUE, 3, 3, 3, 3};
        for (int i = 0; i < by.length; i++) {
            gives("3 << " + by[i], 3, by[i], two(17), left[i]);
        }
        long[] right = {-3, -2, -1, -3, -2, -1, -3, -3, -3, -3};
        for (int i = 0; i < by.length; i++) {
            gives("-3 >> " + by[i], -3, by[i], two(18), right[i]);
        }
        gives("the least >> 63", Long.MIN_VALUE, 63, two(18), -1);
        gives("the most >> 62", Long.MAX_VALUE, 62, two(18), 1);
    }

    /** 28 to 39 with numbers next to each other, and far from each other. */
    private static void comparing() {
        long[][] pairs = {{0, 0}, {-1, 0}, {1, 0}, {Long.MIN_VALUE, Long.MAX_VALUE}, {Long.MAX_VALUE, Long.MIN_VALUE},
            {Long.MIN_VALUE, 0}, {Long.MAX_VALUE, 0}, {5, 4}, {5, 5}, {5, 6}};
        for (long[] p : pairs) {
            boolean[] so = {p[0] == p[1], p[0] != p[1], p[0] < p[1], p[0] <= p[1], p[0] > p[1], p[0] >= p[1]};
            for (int i = 0; i < 6; i++) {
                Kit.Code code = Kit.code().op(4, 0).op(4, 1).go(28 + i, "a").op(1, 0).op(45).at("a").op(1, 1).op(45);
                gives("op " + (28 + i), p[0], p[1], code, so[i] ? 1 : 0);
                if (p[1] == 0) {
                    Kit.Code zero = Kit.code().op(4, 0).go(34 + i, "a").op(1, 0).op(45).at("a").op(1, 1).op(45);
                    gives("op " + (34 + i), p[0], 0, zero, so[i] ? 1 : 0);
                }
            }
        }
    }

    /** "43 ..: N, goes to its key's, else to d": keys have 32 bits, numbers 64. */
    private static void keys() {
        long[] numbers = {-2147483648L, -2147483649L, 2147483647, 2147483648L, 4294967296L, 0, -1, 1, Long.MIN_VALUE};
        long[] want = {1, 9, 3, 9, 9, 2, 9, 9, 9};
        for (int i = 0; i < numbers.length; i++) {
            Kit.Code code = Kit.code().op(4, 0).choose("d -2147483648:a 0:b 2147483647:c").at("a").op(1, 1).op(45).at("b").op(1, 2)
                .op(45).at("c").op(1, 3).op(45).at("d").op(1, 9).op(45);
            gives("key " + numbers[i], numbers[i], 0, code, want[i]);
        }
        gives("no keys", 0, 0, Kit.code().op(4, 0).choose("d").at("d").op(1, 9).op(45), 9);
        StringBuilder goals = new StringBuilder("d");
        for (int k = 1; k <= 40; k++) {
            goals.append(" ").append(k).append(":k").append(k);
        }
        for (int n : new int[] {0, 1, 2, 39, 40, 41}) {
            Kit.Code code = Kit.code().op(4, 0).choose(goals.toString());
            for (int k = 1; k <= 40; k++) {
                code.at("k" + k).op(1, 50 + k).op(45);
            }
            gives("of 40 keys, " + n, n, 0, code.at("d").op(1, 9).op(45), n < 1 || n > 40 ? 9 : 50 + n);
        }
    }

    /** What lies below what an act takes stays there. */
    private static void below() {
        for (int op = 28; op < 42; op++) {
            for (long a : new long[] {-1, 0, 1}) {
                Kit.Code code = Kit.code().op(4, 1);
                code = op < 34 ? code.op(4, 0).op(1, 0) : op < 40 ? code.op(4, 0) : code.op(3);
                gives("below op " + op, a, 77, code.go(op, "a").op(0).at("a").op(45), 77);
            }
        }
        gives("below a switch", 5, 77, Kit.code().op(4, 1).op(4, 0).choose("d 5:e").at("e").op(0).at("d").op(45), 77);
        for (int op = 9; op <= 18; op++) {
            gives("below op " + op, 7, 77, Kit.code().op(4, 1).op(4, 0).op(4, 0).op(op).op(20).op(45), 77);
        }
        gives("below what is turned", 5, 77, Kit.code().op(4, 1).op(4, 0).op(1, 9).op(22).op(10).op(9).op(45), 77 + 4);
        gives("y, x, y", 5, 77, Kit.code().op(4, 0).op(4, 1).op(23).op(10).op(9).op(45), 77 + 5 - 77);
        gives("twice", 5, 77, Kit.code().op(4, 1).op(4, 0).op(21).op(11).op(10).op(45), 77 - 25);
        // What stands behind a switch's keys is none of them: 0, 0, 0, 5 0, 46.
        gives("behind the keys", 5, 0, Kit.code().op(4, 0).choose("13 4:13").op(45).op(4, 1).op(45).op(0).op(0).op(0).op(5, 0).op(47), 0);
    }

    /** What lies below a call's terms is there when it comes back, with a result above it or without. */
    private static void belowCalls() {
        for (String result : new String[] {"N", "A", "V"}) {
            Kit kit = new Kit("F");
            int other = kit.member("F", "other", "NAN" + result);
            Kit.Code code = Kit.code().op(4, 1).op(4, 0).op(3).op(1, 9).of(44, other);
            code = result.equals("A") ? code.op(27).op(10) : result.equals("N") ? code.op(10) : code;
            kit.own("m", "NNN", 2, 60, code.op(45));
            Kit.Code gives = Kit.code().op(1, 50).op(4, 0).op(4, 2).op(10);
            gives = result.equals("A") ? gives.op(24).op(45) : result.equals("N") ? gives.op(45) : gives.op(46);
            SourceBack x = with(kit.own("other", "NAN" + result, 3, 60, gives));
            for (int side = 0; side < 2; side++) {
                x.call(side, 0, 0, 30, 77);
                x.steps(side, 99);
                state("with " + result, x, side, 2, result.equals("V") ? 77 : 77 - 21);
            }
        }
    }

    /** 60 locals and 60 values on the pile, and two calls with both. */
    private static void lastLocals() {
        Kit kit = new Kit("F");
        int inner = kit.member("F", "inner", "NNN");
        Kit.Code code = Kit.code();
        for (int i = 2; i < 60; i++) {
            code.op(1, i).op(5, i);
        }
        for (int i = 0; i < 58; i++) {
            code.op(4, 2 + i);
        }
        // 58 values lie below the two that inner takes, and its result is the 59th.
        code.op(4, 0).op(4, 1).of(44, inner).op(4, 59);
        for (int i = 0; i < 59; i++) {
            code.op(9);
        }
        kit.own("m", "NNN", 60, 60, code.op(45));
        Kit.Code within = Kit.code();
        for (int i = 2; i < 60; i++) {
            within.op(1, 100).op(5, i);
        }
        for (int i = 0; i < 60; i++) {
            within.op(1, 1);
        }
        for (int i = 0; i < 59; i++) {
            within.op(9);
        }
        kit.own("inner", "NNN", 60, 60, within.op(4, 0).op(9).op(4, 1).op(10).op(45));
        SourceBack x = with(kit);
        x.call(0, 0, 0, 5000, 700);
        x.steps(0, 4000);
        int sum = 59;
        for (int i = 2; i < 60; i++) {
            sum += i;
        }
        state("60 of both", x, 0, 2, sum + 60 + 5000 - 700);
    }

    private static Kit.Code size() {
        return Kit.code().op(4, 0).op(24).op(27).op(45);
    }

    /** "4 an array of less than 0 or more than 1000" */
    private static void makingArrays() {
        for (long n : new long[] {0, 1, 999, 1000}) {
            gives("make " + n, n, 0, size(), n);
        }
        for (long n : new long[] {-1, 1001, Long.MIN_VALUE, Long.MAX_VALUE, 4294967296L, 4294967297L}) {
            fails("make " + n, n, 0, size(), 4, 2);
        }
        SourceBack x = with(new Kit("F").own("m", "NNNN", 4, 9, size()));
        x.call(0, 0, 0, -1, 0);
        x.steps(0, 9);
        Due.same("none was made", x.count(2), 0);
    }

    /** "3 an element that is not there" */
    private static void elements() {
        Kit.Code get = Kit.code().op(4, 0).op(24).op(4, 1).op(25).op(45);
        Kit.Code set = Kit.code().op(4, 0).op(24).op(21).op(4, 1).op(1, 7).op(26).op(4, 1).op(25).op(45);
        for (long n : new long[] {1, 3, 1000}) {
            for (long i : new long[] {0, n - 1}) {
                gives("element " + i + " of " + n, n, i, get, 0);
                gives("element " + i + " of " + n + " set", n, i, set, 7);
            }
            for (long i : new long[] {-1, n, n + 1, Long.MIN_VALUE, Long.MAX_VALUE, 4294967296L, 4294967295L}) {
                fails("element " + i + " of " + n, n, i, get, 3, 4);
                fails("element " + i + " of " + n + " set", n, i, set, 3, 6);
            }
        }
        fails("of an empty one", 0, 0, get, 3, 4);
        fails("of an empty one, set", 0, 0, set, 3, 6);
    }

    /** "2 an array that is NONE": ahead of an element that is not there. */
    private static void arraysThatAreNone() {
        for (long i : new long[] {0, -1, 5000}) {
            fails("none[" + i + "]", 0, i, Kit.code().op(3).op(4, 1).op(25).op(45), 2, 3);
            fails("none[" + i + "] = ", 0, i, Kit.code().op(3).op(4, 1).op(1, 7).op(26).op(4, 0).op(45), 2, 4);
        }
        fails("size(none)", 0, 0, Kit.code().op(3).op(27).op(45), 2, 2);
        Kit kit = new Kit("F");
        int g = kit.ownField("g", 'A');
        SourceBack x = with(kit.own("m", "N", 0, 1, Kit.code().of(7, g).op(27).op(45)));
        x.call(0, 0, 0, 0, 0);
        x.steps(0, 9);
        state("a field that was not set", x, 0, 3, 0, 2, 0, 2);
        gives("none is none", 0, 0, Kit.code().op(3).go(40, "a").op(1, 0).op(45).at("a").op(1, 1).op(45), 1);
        gives("none is not another", 0, 0, Kit.code().op(3).go(41, "a").op(1, 0).op(45).at("a").op(1, 1).op(45), 0);
        gives("an empty array is not none", 0, 0, Kit.code().op(4, 0).op(24).go(40, "a").op(1, 0).op(45).at("a").op(1, 1).op(45), 0);
    }

    /** Makes an array of a, then comes back. */
    private static Kit maker() {
        return new Kit("F").own("m", "NV", 1, 1, Kit.code().op(4, 0).op(24).op(20).op(46)).own("a", "AV", 1, 0, Kit.code().op(46))
            .own("aa", "AAV", 2, 0, Kit.code().op(46));
    }

    private static boolean makes(SourceBack x, int side, int n) {
        x.call(side, 0, 0, n, 0);
        x.steps(side, 9);
        return x.state(side, 0) == 2;
    }

    /** "arrays in all at most 4000 with 40000 elements" */
    private static void fullOfElements() {
        for (int side = 0; side < 2; side++) {
            SourceBack x = with(maker());
            for (int i = 0; i < 39; i++) {
                Due.same("array " + i, makes(x, side, 1000), true);
            }
            Due.same("39999", makes(x, side, 999), true);
            Due.same("two more", makes(x, side, 2), false);
            state("no room", x, side, 3, 0, 4, 0, 2);
            Due.same("arrays", x.count(2 + side), 40);
            Due.same("one more", makes(x, side, 1), true);
            Due.same("one above", makes(x, side, 1), false);
            Due.same("an empty one", makes(x, side, 0), true);
            Due.same("arrays", x.count(2 + side), 42);
            Due.same("the last one's size", x.element(side, 41, -1), 0);
            Due.same("the last element", x.element(side, 40, 0), 0);
            Due.same("the other side has room", makes(x, 1 - side, 1000), true);
            x.settle();
            Due.same("room again", makes(x, side, 1000), true);
            Due.same("arrays", x.count(2 + side), 1);
        }
    }

    private static void fullOfArrays() {
        Kit kit = new Kit("F").own("m", "NV", 1, 1, Kit.code().at("h").op(4, 0).op(24).op(20).op(6, 0, 0).go(42, "h"));
        kit.own("a", "AV", 1, 0, Kit.code().op(46));
        SourceBack x = with(kit);
        x.call(0, 0, 0, 0, 0);
        for (int i = 0; i < 5; i++) {
            x.steps(0, 4000);
        }
        Due.same("4000 arrays", x.count(2), 4000);
        state("it runs", x, 0, 1, 0, 0, 0, 20000);
        Due.same("steps", x.steps(0, 9), 2);
        state("the 4001st", x, 0, 3, 0, 4, 0, 20002);
        Due.same("arrays", x.count(2), 4000);
        Due.same("the last", x.element(0, 3999, -1), 0);
        Due.throwing("none behind it", IndexOutOfBoundsException.class, () -> x.element(0, 4000, -1));
        Due.same("a call with an array", x.call(0, 0, 1, 0, 0), true);
        state("it has failed", x, 0, 3, 0, 4, 0, 0);
    }

    /** "(without room for one it has FAILED (4) at once, without a step)" */
    private static void parametersWithoutRoom() {
        for (int spare = 3; spare <= 8; spare++) {
            SourceBack x = with(maker());
            for (int i = 0; i < 39; i++) {
                makes(x, 0, 1000);
            }
            makes(x, 0, 1000 - spare);
            boolean one = spare >= 4;
            Due.same("begun", x.call(0, 0, 1, 5, 6), true);
            state("room for " + spare, x, 0, one ? 1 : 3, 0, one ? 0 : 4, 0, 0, one ? 1 : 0, one ? 0 : -1, one ? 1 : -1,
                one ? 0 : -1);
            Due.same("arrays", x.count(2), one ? 41 : 40);
            Due.same("calls begun", x.count(4), 41);
            if (!one) {
                Due.throwing("it does not run", IllegalStateException.class, () -> x.steps(0, 1));
                Due.same("another may begin", x.call(0, 0, 0, 0, 0), true);
            }
        }
        for (int spare = 7; spare <= 8; spare++) {
            SourceBack x = with(maker());
            for (int i = 0; i < 39; i++) {
                makes(x, 0, 1000);
            }
            makes(x, 0, 1000 - spare);
            x.call(0, 0, 2, 5, 6);
            Due.same("two arrays", x.state(0, 0), spare == 8 ? 1 : 3);
        }
    }

    /** "a N, the i-th, a if i is even, else b; an A an array of four: a, b, a + b, i" */
    private static void parameters() {
        for (int i = 0; i < 8; i++) {
            SourceBack x = with(new Kit("F").own("m", "NNNNNNNNN", 8, 1, Kit.code().op(4, i).op(45)));
            x.call(0, 0, 0, 11, 22);
            x.steps(0, 9);
            Due.same("parameter " + i, x.state(0, 1), i % 2 == 0 ? 11 : 22);
            SourceBack y = with(new Kit("F").own("m", "AAAAAAAAA", 8, 1, Kit.code().op(4, i).op(45)));
            y.call(1, 0, 0, 11, 22);
            y.steps(1, 9);
            Due.same("parameter " + i, y.state(1, 1), i);
            long[] want = {11, 22, 33, i};
            for (int k = 0; k < 4; k++) {
                Due.same("element " + k, y.element(1, i, k), want[k]);
            }
            Due.same("four", y.element(1, i, -1), 4);
            Due.same("arrays", y.count(3), 8);
        }
        SourceBack none = with(new Kit("F").own("m", "V", 0, 0, Kit.code().op(46)));
        none.call(0, 0, 0, 11, 22);
        Due.same("no parameters, no arrays", none.count(2), 0);
    }

    /** "calls at most 60 in one another", "6 the 61st call" */
    private static void sixtyCalls() {
        Kit kit = new Kit("F");
        int self = kit.member("F", "m", "NN");
        kit.own("m", "NN", 1, 2, Kit.code().op(4, 0).go(34, "z").op(4, 0).op(1, 255).op(9).of(44, self).op(1, 1).op(9).op(45)
            .at("z").op(1, 0).op(45));
        for (int side = 0; side < 2; side++) {
            SourceBack x = with(kit);
            x.call(side, 0, 0, 59, 0);
            x.steps(side, 4000);
            state("60 calls", x, side, 2, 59, 0, 0, 59 * 9 + 4);
            x.call(side, 0, 0, 60, 0);
            x.steps(side, 59 * 6);
            state("60 calls", x, side, 1, 0, 0, 0, 59 * 6, 60, 0, 0, 0);
            Due.same("the 61st", x.steps(side, 100), 6);
            state("61 calls", x, side, 3, 0, 6, 0, 60 * 6, 0, -1, -1, -1);
        }
        // One that is not there is told as such, however many calls are open.
        Kit other = new Kit("F");
        int own = other.member("F", "m", "NV");
        int far = other.member("G", "m", "V");
        other.own("m", "NV", 1, 1, Kit.code().op(6, 0, 255).op(4, 0).go(34, "z").op(4, 0).of(44, own).op(46).at("z").of(44, far).op(46));
        SourceBack y = with(other);
        y.call(0, 0, 0, 60, 0);
        y.steps(0, 4000);
        state("not in the set", y, 0, 3, 0, 5);
    }

    /** "A member's owner, field or member that isn't in the set (as the entry says, kinds and all): FAILURE 5" */
    private static void notInTheSet() {
        Kit g = new Kit("G");
        g.ownField("f", 'N');
        g.field("G", "pooled", 'N');
        g.member("G", "pooled", "V");
        g.own("h", "NN", 1, 1, Kit.code().op(4, 0).op(45));
        String[] members = {"NN", "NV", "NA", "AN", "N", "NNN"};
        for (String kinds : members) {
            Kit f = new Kit("F");
            int entry = f.member("G", "h", kinds);
            Kit.Code code = Kit.code();
            for (int i = 0; i < kinds.length() - 1; i++) {
                code = kinds.charAt(i) == 'A' ? code.op(3) : code.op(1, 1);
            }
            SourceBack x = with(f.own("m", "V", 0, 3, code.of(44, entry).op(46)));
            Kit.take(x, g.bytes());
            for (int side = 0; side < 2; side++) {
                x.call(side, 0, 0, 0, 0);
                x.steps(side, 99);
                Due.same("h " + kinds, x.state(side, 2), kinds.equals("NN") ? 0 : 5);
            }
        }
        String[][] fields = {{"G", "f"}, {"G", "F"}, {"G", "ff"}, {"H", "f"}, {"g", "f"}, {"F", "f"}, {"G", "pooled"}};
        for (String[] names : fields) {
            for (char kind : new char[] {'N', 'A'}) {
                Kit f = new Kit("F");
                int entry = f.field(names[0], names[1], kind);
                Kit.Code set = kind == 'A' ? Kit.code().op(3) : Kit.code().op(1, 1);
                SourceBack x = with(f.own("m", "V", 0, 1, Kit.code().of(7, entry).op(20).op(46))
                    .own("s", "V", 0, 1, set.of(8, entry).op(46)));
                Kit.take(x, g.bytes());
                boolean there = names[0].equals("G") && names[1].equals("f") && kind == 'N';
                for (int m = 0; m < 2; m++) {
                    x.call(0, 0, m, 0, 0);
                    x.steps(0, 99);
                    state(names[0] + "." + names[1] + kind, x, 0, there ? 2 : 3, 0, there ? 0 : 5, 0, there ? 3 : 1 + m);
                }
            }
        }
        // A member that stands in the pool alone is none of the set.
        Kit f = new Kit("F");
        int pooled = f.member("G", "pooled", "V");
        SourceBack x = with(f.own("m", "V", 0, 1, Kit.code().of(44, pooled).op(46)));
        Kit.take(x, g.bytes());
        x.call(0, 0, 0, 0, 0);
        x.steps(0, 99);
        state("pooled", x, 0, 3, 0, 5, 0, 1);
    }

    /** "7 fail (with its number)" */
    private static void failing() {
        for (long n : new long[] {0, -1, Long.MIN_VALUE, Long.MAX_VALUE}) {
            SourceBack x = with(new Kit("F").own("m", "NN", 1, 1, Kit.code().op(4, 0).op(47)));
            for (int side = 0; side < 2; side++) {
                x.call(side, 0, 0, n, 5);
                Due.same("steps", x.steps(side, 9), 2);
                state("fail " + n, x, side, 3, 0, 7, n, 2, 0, -1, -1, -1);
            }
        }
    }

    /** "An ACT that is done, or fails, is a step", and what was done ahead of a failure stays. */
    private static void effectsStay() {
        Kit kit = new Kit("F");
        int f = kit.ownField("f", 'N');
        int g = kit.ownField("g", 'A');
        kit.own("m", "NV", 1, 3, Kit.code().op(1, 3).op(24).of(8, g).of(7, g).op(1, 2).op(4, 0).op(26).op(4, 0).of(8, f).op(1, 1).op(1, 0)
            .op(12).op(20).op(46));
        SourceBack x = with(kit);
        x.call(0, 0, 0, 77, 0);
        Due.same("steps", x.steps(0, 99), 12);
        state("failed", x, 0, 3, 0, 1, 0, 12);
        Due.same("field f", x.field(0, 0, 0), 77);
        Due.same("field g", x.field(0, 0, 1), 0);
        Due.same("its element", x.element(0, 0, 2), 77);
        Due.same("arrays", x.count(2), 1);
        Due.same("a call again", x.call(0, 0, 0, 78, 0), true);
        Due.same("fields stay", x.field(0, 0, 0), 77);
        Due.same("arrays stay", x.element(0, 0, 2), 77);
        x.steps(0, 99);
        Due.same("a second array", x.field(0, 0, 1), 1);
        Due.same("the first one", x.element(0, 0, 2), 77);
        Due.same("the second one", x.element(0, 1, 2), 78);
        Due.same("the other side", x.field(1, 0, 0), 0);
        Due.same("the other side", x.count(3), 0);
    }

    /** "4: calls begun by call() so far": whatever came of them, and whatever began anew. */
    private static void begunCalls() {
        Kit kit = new Kit("F");
        int self = kit.member("F", "m", "V");
        SourceBack x = with(kit.own("m", "V", 0, 0, Kit.code().of(44, self).op(46)));
        x.call(0, 0, 0, 0, 0);
        x.steps(0, 30);
        Due.same("calls within are not counted", x.count(4), 1);
        x.call(0, 0, 0, 0, 0);
        Due.same("one that was refused", x.count(4), 1);
        x.settle();
        Due.same("settled", x.count(4), 1);
        x.call(1, 0, 0, 0, 0);
        Due.same("on either side", x.count(4), 2);
    }

    /** "false if there is none such, or a call RUNS there" */
    private static void refusedCalls() {
        SourceBack x = with(new Kit("F").own("m", "AV", 1, 0, Kit.code().op(0).op(46)));
        int[][] none = {{2, 0, 0}, {-1, 0, 0}, {0, 1, 0}, {0, -1, 0}, {0, 0, 1}, {0, 0, -1}, {Integer.MAX_VALUE, 0, 0},
            {0, Integer.MIN_VALUE, 0}, {0, 0, Integer.MAX_VALUE}, {0, 16, 0}};
        for (int[] n : none) {
            Due.same("call(" + n[0] + ", " + n[1] + ", " + n[2] + ")", x.call(n[0], n[1], n[2], 1, 2), false);
        }
        Due.same("arrays", x.count(2), 0);
        Due.same("calls", x.count(4), 0);
        state("none", x, 0, 0, 0, 0, 0, 0, 0, -1, -1, -1);
        Due.same("a call", x.call(0, 0, 0, 1, 2), true);
        x.steps(0, 1);
        Due.same("it runs", x.call(0, 0, 0, 3, 4), false);
        Due.same("arrays", x.count(2), 1);
        state("as it was", x, 0, 1, 0, 0, 0, 1, 1, 0, 0, 1);
        x.steps(0, 1);
        Due.same("it came back", x.call(0, 0, 0, 3, 4), true);
    }

    /** "n is not 1 .. 4000", "there is no such side", "no call RUNS there" */
    private static void steps() {
        SourceBack x = with(new Kit("F").own("m", "V", 0, 0, Kit.code().at("h").go(42, "h")).own("e", "V", 0, 0, Kit.code().op(46)));
        int[][] wrong = {{0, 0}, {0, 4001}, {0, -1}, {0, Integer.MAX_VALUE}, {0, Integer.MIN_VALUE}, {2, 1}, {-1, 1},
            {2, 0}, {Integer.MIN_VALUE, 4000}};
        for (int[] w : wrong) {
            Due.throwing("steps(" + w[0] + ", " + w[1] + ")", IllegalArgumentException.class, () -> x.steps(w[0], w[1]));
        }
        for (int n : new int[] {1, 4000}) {
            Due.throwing("no call", IllegalStateException.class, () -> x.steps(0, n));
            Due.throwing("no call", IllegalStateException.class, () -> x.steps(1, n));
        }
        x.call(0, 0, 0, 0, 0);
        for (int[] w : wrong) {
            Due.throwing("steps(" + w[0] + ", " + w[1] + ")", IllegalArgumentException.class, () -> x.steps(w[0], w[1]));
        }
        Due.same("no step was done", x.state(0, 4), 0);
        Due.same("one", x.steps(0, 1), 1);
        Due.same("4000", x.steps(0, 4000), 4000);
        Due.same("all", x.state(0, 4), 4001);
        Due.throwing("the other side", IllegalStateException.class, () -> x.steps(1, 1));
        x.call(1, 0, 1, 0, 0);
        Due.same("no more than there are", x.steps(1, 4000), 1);
        Due.throwing("it came back", IllegalStateException.class, () -> x.steps(1, 1));
        Due.same("steps of the last call", x.state(1, 4), 1);
        x.settle();
        Due.throwing("no call", IllegalStateException.class, () -> x.steps(0, 1));
    }

    /** "IndexOutOfBoundsException: there is no such side or what", and what is told of calls that do not run. */
    private static void statesOfCalls() {
        SourceBack x = with(new Kit("F").own("m", "A", 0, 1, Kit.code().op(3).op(45)).own("v", "V", 0, 0, Kit.code().op(46))
            .own("z", "A", 0, 1, Kit.code().op(1, 0).op(24).op(45)));
        int[][] none = {{0, 9}, {0, -1}, {2, 0}, {-1, 0}, {1, 9}, {1, Integer.MAX_VALUE}, {Integer.MIN_VALUE, 0}, {0, Integer.MIN_VALUE}};
        for (int[] n : none) {
            Due.throwing("state(" + n[0] + ", " + n[1] + ")", IndexOutOfBoundsException.class, () -> x.state(n[0], n[1]));
        }
        state("none", x, 0, 0, 0, 0, 0, 0, 0, -1, -1, -1);
        x.call(0, 0, 0, 0, 0);
        state("it runs", x, 0, 1, 0, 0, 0, 0, 1, 0, 0, 0);
        x.steps(0, 1);
        state("it runs", x, 0, 1, 0, 0, 0, 1, 1, 0, 0, 1);
        x.steps(0, 1);
        state("none is its result", x, 0, 2, -1, 0, 0, 2, 0, -1, -1, -1);
        x.call(0, 0, 1, 0, 0);
        state("the latest call", x, 0, 1, 0, 0, 0, 0, 1, 0, 1, 0);
        x.steps(0, 1);
        state("0 of V", x, 0, 2, 0, 0, 0, 1, 0, -1, -1, -1);
        x.call(0, 0, 2, 0, 0);
        x.steps(0, 3);
        state("an array's number", x, 0, 2, 0, 0, 0, 3, 0, -1, -1, -1);
        x.call(0, 0, 2, 0, 0);
        x.steps(0, 3);
        state("the next array's", x, 0, 2, 1);
        state("the other side", x, 1, 0, 0, 0, 0, 0, 0, -1, -1, -1);
    }

    /** "IndexOutOfBoundsException: there is none such" */
    private static void fieldsAndElements() {
        Kit kit = new Kit("F");
        kit.ownField("f", 'N');
        kit.ownField("g", 'A');
        SourceBack x = with(kit.own("m", "AV", 1, 0, Kit.code().op(46)));
        Kit.take(x, new Kit("G").bytes());
        for (int side = 0; side < 2; side++) {
            Due.same("a number at first", x.field(side, 0, 0), 0);
            Due.same("an array at first", x.field(side, 0, 1), -1);
        }
        int[][] fields = {{0, 0, 2}, {0, 0, -1}, {0, 1, 0}, {0, 2, 0}, {0, -1, 0}, {2, 0, 0}, {-1, 0, 0}, {0, 0, Integer.MAX_VALUE},
            {0, 0, Integer.MIN_VALUE}, {0, Integer.MAX_VALUE, 0}, {Integer.MIN_VALUE, 0, 0}};
        for (int[] n : fields) {
            Due.throwing("field(" + n[0] + ", " + n[1] + ", " + n[2] + ")", IndexOutOfBoundsException.class,
                () -> x.field(n[0], n[1], n[2]));
        }
        Due.throwing("no array", IndexOutOfBoundsException.class, () -> x.element(0, 0, -1));
        x.call(0, 0, 0, 5, 6);
        Due.same("the first", x.element(0, 0, 0), 5);
        Due.same("the last", x.element(0, 0, 3), 0);
        Due.same("how many", x.element(0, 0, -1), 4);
        int[][] elements = {{0, 0, 4}, {0, 0, -2}, {0, 1, 0}, {0, 1, -1}, {0, -1, 0}, {0, -1, -1}, {1, 0, 0}, {1, 0, -1}, {2, 0, 0},
            {-1, 0, 0}, {0, 0, Integer.MAX_VALUE}, {0, 0, Integer.MIN_VALUE}, {0, Integer.MAX_VALUE, -1}};
        for (int[] n : elements) {
            Due.throwing("element(" + n[0] + ", " + n[1] + ", " + n[2] + ")", IndexOutOfBoundsException.class,
                () -> x.element(n[0], n[1], n[2]));
        }
    }

    private static Kit busy() {
        Kit kit = new Kit("F");
        int f = kit.ownField("f", 'N');
        int g = kit.ownField("g", 'A');
        return kit.own("m", "NAV", 2, 1, Kit.code().op(4, 0).of(8, f).op(4, 1).of(8, g).op(0).op(46));
    }

    private static SourceBack running() {
        SourceBack x = with(busy());
        for (int side = 0; side < 2; side++) {
            x.call(side, 0, 0, 5, 6);
            x.steps(side, 4);
            Due.same("field f", x.field(side, 0, 0), 5);
            Due.same("field g", x.field(side, 0, 1), 0);
        }
        return x;
    }

    private static void running(String what, SourceBack x, boolean still) {
        for (int side = 0; side < 2; side++) {
            state(what, x, side, still ? 1 : 0, 0, 0, 0, still ? 4 : 0, still ? 1 : 0, still ? 0 : -1, still ? 0 : -1);
            Due.same(what + ", field f", x.field(side, 0, 0), still ? 5 : 0);
            Due.same(what + ", field g", x.field(side, 0, 1), still ? 0 : -1);
            Due.same(what + ", arrays", x.count(2 + side), still ? 1 : 0);
        }
    }

    /** "Taking, editing, undoing a file, and settle(), let both sides begin anew: no call, no arrays, fields as at first." */
    private static void beginsAnew() {
        String text = "void m(number n, array r) { F.f = n; F.g = r; drop 0; drop 0; }";
        SourceBack taking = running();
        Due.same("take", Kit.take(taking, new Kit("G").bytes()), 1);
        running("taking", taking, false);
        SourceBack editing = running();
        Due.same("edit", Kit.edit(editing, 0, 0, text), 0);
        running("editing", editing, false);
        for (int side = 0; side < 2; side++) {
            editing.call(side, 0, 0, 5, 6);
            editing.steps(side, 4);
        }
        Due.same("undo", editing.undo(0), true);
        running("undoing", editing, false);
        SourceBack settling = running();
        settling.settle();
        running("settling", settling, false);
        settling.settle();
        running("settling again", settling, false);
        Due.same("a call may begin", settling.call(0, 0, 0, 1, 2), true);
    }

    /** What is refused lets both sides run on. */
    private static void refusedLetsRun() {
        SourceBack x = running();
        Due.same("the same name", Kit.take(x, busy().bytes()) < 0, true);
        Due.same("no file", x.take(), -2);
        Due.same("nothing to undo", x.undo(0), false);
        Due.same("an error", Kit.edit(x, 0, 0, "void m() {") > 0, true);
        Due.same("another head", Kit.edit(x, 0, 0, "void m() { }"), 12);
        Due.same("a rule", Kit.edit(x, 0, 0, "void m(number n, array r) { number a; drop a; }"), -2);
        Due.same("judge", Kit.judge(x, 0, "void m() { }"), 0);
        Due.same("no feeding", x.feed(1, 9), -1);
        Due.throwing("no steps", IllegalArgumentException.class, () -> x.steps(0, 0));
        Due.same("one runs", x.call(0, 0, 0, 1, 1), false);
        running("refused", x, true);
    }

    /** "0 the files, 1 the made ones (of a file without one: the file itself)" */
    private static void sides() {
        Kit kit = new Kit("F").own("m", "NN", 1, 2, Kit.code().op(4, 0).op(21).op(9).op(0).op(45));
        SourceBack x = with(kit);
        x.call(0, 0, 0, 8, 0);
        x.call(1, 0, 0, 8, 0);
        Due.same("the file's steps", x.steps(0, 99), 5);
        // t0 = n0; give t0 + t0;
        Due.same("the made one's steps", x.steps(1, 99), 6);
        state("the file", x, 0, 2, 16);
        state("the made one", x, 1, 2, 16);
        SourceBack y = with(kit.own("if", "V", 0, 0, Kit.code().op(46)));
        y.call(1, 0, 0, 8, 0);
        Due.same("without a made one", y.steps(1, 99), 5);
    }

    /** "NONE for another what" */
    private static void counts() {
        SourceBack x = running();
        int[] want = {0, 1, 1, 1, 2, 1};
        for (int what = 0; what < want.length; what++) {
            Due.same("count(" + what + ")", x.count(what), want[what]);
        }
        int[] none = {-1, 6, 7, Integer.MAX_VALUE, Integer.MIN_VALUE};
        for (int what : none) {
            Due.same("count(" + what + ")", x.count(what), -1);
        }
    }
}
