/** Terms 3 to 5: what acts take and put, the rules 16 to 23 at their edges, kinds in rounds, blocks. */
public final class FlowEdgeTest {
    public static void main(String[] args) {
        tooFew();
        wrongKind();
        whatTheyPut();
        tooMany();
        strayingJumps();
        memberByMember();
        results();
        unsetLocals();
        stepsOfLocals();
        behindTheLast();
        moreThanOneBelow();
        notAsDeep();
        otherKinds();
        leastOfOneAct();
        valuesLeft();
        mixing();
        roundByRound();
        mixedLate();
        oneByOne();
        unreached();
        blocksBegin();
        ways();
        heads();
        met();
        parents();
        knots();
        Due.end();
    }

    /** What each act takes from below, N or A, x for any; * for what its entry tells. */
    private static final String[] TAKES = {
        "", "", "", "", "", "x", "", "", "*", "NN", "NN", "NN", "NN", "NN", "NN", "NN", "NN", "NN", "NN", "N", "x", "x", "xx",
        "xx", "N", "AN", "ANN", "A", "NN", "NN", "NN", "NN", "NN", "NN", "N", "N", "N", "N", "N", "N", "A", "A", "", "N", "*",
        "*", "", "N"};

    private static int told(int rule, int place) {
        return -1 - (rule + 32 * place);
    }

    /** F has fields f (N, entry 3) and g (A, 5), and can ask for G.h AN:N (9) and for the number 1000 (10). */
    private static Kit kit() {
        Kit kit = new Kit("F");
        kit.ownField("f", 'N');
        kit.ownField("g", 'A');
        kit.member("G", "h", "ANN");
        kit.number(1000);
        return kit;
    }

    /** Local 0 is N, 1 is A, 2 to 4 are unset; the place of an act is told from the code's first byte on. */
    private static int rule(String kinds, int pile, Kit.Code code) {
        byte[] bytes = kit().own("m", kinds, 5, pile, code).bytes();
        int answer = Kit.take(new SourceBack(), bytes);
        int first = bytes.length - code.bytes().length;
        return answer >= 0 ? answer : answer + 32 * first;
    }

    private static void refused(String what, String kinds, int pile, Kit.Code code, int rule, int place) {
        Due.same(what, rule(kinds, pile, code), told(rule, place));
    }

    private static void taken(String what, String kinds, int pile, Kit.Code code) {
        Due.same(what, rule(kinds, pile, code), 0);
    }

    private static Kit.Code values(String kinds) {
        Kit.Code code = Kit.code();
        for (int i = 0; i < kinds.length(); i++) {
            code.op(4, kinds.charAt(i) == 'A' ? 1 : 0);
        }
        return code;
    }

    /** Act op behind a code that is so long; jumps go to the act behind. */
    private static Kit.Code add(Kit.Code code, int op) {
        if (op == 43) {
            return code.choose("behind 7:behind").at("behind");
        }
        if (op >= 28 && op <= 42) {
            return code.go(op, "behind").at("behind");
        }
        if (op == 1 || op == 4 || op == 5) {
            return code.op(op, 0);
        }
        if (op == 6) {
            return code.op(6, 0, 1);
        }
        if (op == 2 || op == 7 || op == 8 || op == 44) {
            return code.of(op, op == 2 ? 10 : op == 44 ? 9 : 3);
        }
        return code.op(op);
    }

    private static String takes(int op) {
        return op == 8 ? "N" : op == 44 ? "AN" : op == 45 ? "N" : TAKES[op];
    }

    private static String kinds(int op) {
        return op == 45 ? "NAN" : "NAV";
    }

    private static Kit.Code ended(Kit.Code code, int op) {
        return op == 45 ? code : code.op(46);
    }

    /** "17 too few values on the pile": each act with one value fewer than it takes, and with none. */
    private static void tooFew() {
        for (int op = 0; op < 48; op++) {
            String takes = takes(op).replace('x', 'N');
            taken("op " + op, kinds(op), 4, ended(add(values(takes), op), op));
            for (int n = 0; n < takes.length(); n++) {
                String fewer = takes.substring(takes.length() - n);
                refused("op " + op + " with " + n, kinds(op), 4, ended(add(values(fewer), op), op), 17, 2 * n);
            }
        }
    }

    /** "19 a value of the wrong kind": each value of each act, the others being right. */
    private static void wrongKind() {
        for (int op = 0; op < 48; op++) {
            String takes = takes(op);
            for (int i = 0; i < takes.length() && op != 45; i++) {
                char other = takes.charAt(i) == 'N' ? 'A' : 'N';
                String wrong = (takes.substring(0, i) + other + takes.substring(i + 1)).replace('x', 'A');
                Kit.Code code = ended(add(values(wrong), op), op);
                if (takes.charAt(i) == 'x') {
                    taken("op " + op + " takes any", "NAV", 4, code);
                } else {
                    refused("op " + op + ", value " + i, "NAV", 4, code, 19, 2 * takes.length());
                }
            }
        }
        refused("a number into an array field", "NAV", 1, Kit.code().op(4, 0).of(8, 5).op(46), 19, 2);
        taken("an array into it", "NAV", 1, Kit.code().op(4, 1).of(8, 5).op(46));
    }

    /** The pile behind an act: x, y are the two values, of two kinds, that lie there. */
    private static void whatTheyPut() {
        String[] puts = {"NA", "NAN", "NAN", "NAA", "NAN", "N", "NA", "NAN"};
        for (int op = 0; op < puts.length; op++) {
            pileBehind(op, "NA", op == 6 ? "NA" : puts[op]);
        }
        for (int op = 9; op <= 18; op++) {
            pileBehind(op, "ANN", "AN");
        }
        pileBehind(19, "AN", "AN");
        pileBehind(20, "NA", "N");
        pileBehind(21, "NA", "NAA");
        pileBehind(22, "NNA", "NAN");
        pileBehind(23, "NNA", "NANA");
        for (char x : "NA".toCharArray()) {
            for (char y : "NA".toCharArray()) {
                for (String below : new String[] {"", "N", "A", "NA", "AN"}) {
                    pileBehind(22, below + x + y, below + y + x);
                    pileBehind(23, below + x + y, below + y + x + y);
                    pileBehind(21, below + x + y, below + x + y + y);
                    pileBehind(20, below + x + y, below + x);
                }
            }
        }
        pileBehind(24, "AN", "AA");
        pileBehind(25, "AAN", "AN");
        pileBehind(26, "AANN", "A");
        pileBehind(27, "NA", "NN");
        pileBehind(44, "AAN", "AN");
    }

    private static void pileBehind(int op, String lies, String due) {
        SourceBack x = new SourceBack();
        Kit.Code code = add(values(lies), op);
        Kit.take(x, kit().own("m", "NAV", 5, 9, code.op(46)).bytes());
        int act = lies.length() + 1;
        Due.same("op " + op + ", deep", x.act(0, 0, act, 3), due.length());
        for (int i = 0; i < due.length(); i++) {
            Due.same("op " + op + ", value " + i, x.kind(0, 0, act, -1 - i), due.charAt(i) == 'A' ? 2 : 1);
        }
        Due.same("op " + op + ", no more", x.kind(0, 0, act, -1 - due.length()), -1);
    }

    /** "21 too many values": PILE is how many may lie there. */
    private static void tooMany() {
        for (int pile = 0; pile <= 3; pile++) {
            taken(pile + " values", "NAV", pile, values("NNN".substring(3 - pile)).op(46));
            refused(pile + 1 + " values", "NAV", pile, values("NNNN".substring(3 - pile)).op(46), 21, 2 * pile);
        }
        taken("60 values", "NAV", 60, values("N".repeat(60)).op(46));
        refused("61 values", "NAV", 60, values("N".repeat(61)).op(46), 21, 120);
        int[] growing = {1, 2, 3, 4, 7, 21, 23};
        for (int op : growing) {
            String takes = takes(op).replace('x', 'N');
            taken("op " + op, "NAV", takes.length() + 1, add(values(takes), op).op(46));
            refused("op " + op, "NAV", takes.length() == 0 ? 0 : takes.length(), add(values(takes), op).op(46), 21,
                2 * takes.length());
        }
        // What is taken and put again is no more than there was.
        taken("an operator", "NAV", 2, values("NN").op(9).op(46));
        taken("an array is made", "NAV", 1, values("N").op(24).op(46));
        taken("two turned round", "NAV", 2, values("NN").op(22).op(46));
        Kit calling = new Kit("F");
        int gives = calling.member("G", "h", "N");
        byte[] bytes = calling.own("m", "V", 0, 0, Kit.code().of(44, gives).op(46)).bytes();
        Due.same("a call's result", Kit.take(new SourceBack(), bytes), told(21, bytes.length - 4));
    }

    /** "16 a jump or switch that goes to no act's beginning (at the first such act)" */
    private static void strayingJumps() {
        for (int op = 28; op <= 42; op++) {
            Kit.Code code = values(takes(op));
            int place = 2 * takes(op).length();
            refused("op " + op + " into itself", "NAV", 4, values(takes(op)).go(op, "" + (place + 1)).op(46), 16, place);
            refused("op " + op + " to the code's end", "NAV", 4, values(takes(op)).go(op, "" + (place + 4)).op(46), 16, place);
            refused("op " + op + " far behind", "NAV", 4, values(takes(op)).go(op, "65535").op(46), 16, place);
            taken("op " + op + " to the last act", "NAV", 4, code.go(op, "" + (place + 3)).op(46));
        }
        refused("a switch's d", "NAV", 4, Kit.code().op(4, 0).choose("13 7:12").op(46), 16, 2);
        refused("a switch's key", "NAV", 4, Kit.code().op(4, 0).choose("12 7:13").op(46), 16, 2);
        refused("a switch's last key", "NAV", 4, Kit.code().op(4, 0).choose("18 7:18 8:11").op(46), 16, 2);
        taken("a switch", "NAV", 4, Kit.code().op(4, 0).choose("12 7:12").op(46));
        refused("the first such act", "NAV", 4, Kit.code().go(42, "3").go(42, "4").go(42, "5"), 16, 3);
        refused("unreached", "NAV", 4, Kit.code().op(46).go(42, "9"), 16, 1);
        // Ahead of the rounds: the first act breaks a rule, too.
        refused("16 ahead of 17", "NAV", 4, Kit.code().op(9).go(42, "2"), 16, 1);
    }

    /** "Then member by member: 16 ..; then in rounds" */
    private static void memberByMember() {
        Kit.Code falls = Kit.code().op(0);
        Kit.Code strays = Kit.code().go(42, "9");
        byte[] first = kit().own("a", "V", 0, 0, falls).own("b", "V", 0, 0, strays).bytes();
        Due.same("22 of the first ahead of 16 of the second", Kit.take(new SourceBack(), first),
            told(22, first.length - 3 - 6 - 1));
        byte[] second = kit().own("a", "V", 0, 0, strays).own("b", "V", 0, 0, falls).bytes();
        Due.same("16 of the first", Kit.take(new SourceBack(), second), told(16, second.length - 1 - 6 - 3));
        byte[] third = kit().own("a", "V", 0, 0, Kit.code().op(46)).own("b", "V", 0, 0, falls).bytes();
        Due.same("22 of the second", Kit.take(new SourceBack(), third), told(22, third.length - 1));
    }

    /** "18 a result that is not as the sign says (45 in a member with V or another kind, 46 in one without V)" */
    private static void results() {
        taken("N gives N", "NAN", 1, Kit.code().op(4, 0).op(45));
        taken("A gives A", "NAA", 1, Kit.code().op(4, 1).op(45));
        taken("V comes back", "NAV", 1, Kit.code().op(46));
        refused("N gives A", "NAN", 1, Kit.code().op(4, 1).op(45), 18, 2);
        refused("A gives N", "NAA", 1, Kit.code().op(4, 0).op(45), 18, 2);
        refused("V gives N", "NAV", 1, Kit.code().op(4, 0).op(45), 18, 2);
        refused("V gives A", "NAV", 1, Kit.code().op(4, 1).op(45), 18, 2);
        refused("N comes back", "NAN", 1, Kit.code().op(46), 18, 0);
        refused("A comes back", "NAA", 1, Kit.code().op(46), 18, 0);
        taken("all may fail", "NAA", 1, Kit.code().op(4, 0).op(47));
        // The value on top is the one that is given.
        taken("N on A", "NAN", 2, Kit.code().op(4, 1).op(4, 0).op(45));
        refused("A on N", "NAN", 2, Kit.code().op(4, 0).op(4, 1).op(45), 18, 4);
    }

    /** "Rule 20: a load of one that is UNSET or BOTH" */
    private static void unsetLocals() {
        taken("N", "NAV", 1, Kit.code().op(4, 0).op(46));
        taken("A", "NAV", 1, Kit.code().op(4, 1).op(46));
        refused("UNSET", "NAV", 1, Kit.code().op(4, 2).op(46), 20, 0);
        Kit.Code both = Kit.code().op(4, 0).go(34, "a").op(4, 0).op(5, 2).go(42, "b").at("a").op(3).op(5, 2).at("b").op(4, 2).op(46);
        refused("N here, A there", "NAV", 1, both, 20, 15);
        Kit.Code some = Kit.code().op(4, 0).go(34, "b").op(4, 0).op(5, 2).at("b").op(4, 2).op(46);
        refused("set here only", "NAV", 1, some, 20, 9);
        Kit.Code parameter = Kit.code().op(4, 0).go(34, "b").op(3).op(5, 0).at("b").op(4, 0).op(46);
        refused("a parameter that has become BOTH", "NAV", 1, parameter, 20, 8);
        taken("BOTH that is set again", "NAV", 1,
            Kit.code().op(4, 0).go(34, "b").op(3).op(5, 0).at("b").op(1, 1).op(5, 0).op(4, 0).op(46));
        taken("the same on both ways", "NAV", 1,
            Kit.code().op(4, 0).go(34, "a").op(1, 1).op(5, 2).go(42, "b").at("a").op(1, 2).op(5, 2).at("b").op(4, 2).op(46));
    }

    /** "a step of one that is not N" */
    private static void stepsOfLocals() {
        taken("N", "NAV", 1, Kit.code().op(6, 0, 1).op(46));
        refused("A", "NAV", 1, Kit.code().op(6, 1, 1).op(46), 20, 0);
        refused("UNSET", "NAV", 1, Kit.code().op(6, 2, 1).op(46), 20, 0);
        Kit.Code both = Kit.code().op(4, 0).go(34, "b").op(3).op(5, 0).at("b").op(6, 0, 1).op(46);
        refused("BOTH", "NAV", 1, both, 20, 8);
    }

    /** "22 what follows is behind the last act" */
    private static void behindTheLast() {
        for (int op = 0; op < 48; op++) {
            boolean falls = op < 42 || op == 44;
            if (!falls) {
                continue;
            }
            String takes = takes(op).replace('x', 'N');
            // Jumps go to the first act: the pile is empty there and here.
            Kit.Code code = op >= 28 && op <= 41 ? values(takes).go(op, "0") : add(values(takes), op);
            refused("op " + op + " at the end", "NAV", 4, code, 22, 2 * takes.length());
        }
        taken("a jump at the end", "NAV", 1, Kit.code().go(42, "0"));
        taken("a switch at the end", "NAV", 1, Kit.code().op(4, 0).choose("0 1:0"));
        taken("47 at the end", "NAV", 1, Kit.code().op(4, 0).op(47));
        taken("an act that is not reached", "NAV", 1, Kit.code().op(46).op(0));
    }

    /** "23 behind what an act of 28 to 43 takes more than one value lies there" */
    private static void moreThanOneBelow() {
        for (int op = 28; op <= 43; op++) {
            String takes = takes(op);
            for (int below = 0; below <= 3; below++) {
                Kit.Code code = add(values("NNN".substring(3 - below) + takes), op).op(46);
                int place = 2 * (below + takes.length());
                Due.same("op " + op + ", " + below + " below", rule("NAV", 9, code), below < 2 ? 0 : told(23, place));
            }
        }
        // All other acts may have as many as PILE below them.
        taken("a call", "NAV", 9, values("NNNAN").of(44, 9).op(46));
    }

    /** "or where an act goes to, the pile is not as deep" */
    private static void notAsDeep() {
        refused("deeper when it falls in", "NAV", 4, Kit.code().op(4, 0).go(34, "a").op(4, 0).at("a").op(46), 23, 5);
        refused("less deep when it falls in", "NAV", 4,
            Kit.code().op(4, 0).op(4, 0).go(34, "a").op(20).at("a").op(46), 23, 7);
        refused("a jump back", "NAV", 4, Kit.code().at("a").op(4, 0).go(42, "a"), 23, 2);
        // A switch's d comes first, then its keys' ends as they stand, each told at the switch.
        refused("a switch back", "NAV", 4, Kit.code().at("a").op(4, 0).op(4, 0).choose("z 1:z 2:a").at("z").op(46), 23, 4);
        taken("a number is loaded", "NAV", 4, Kit.code().op(4, 0).op(4, 0).go(34, "a").op(20).op(4, 0).at("a").op(46));
        taken("an array is loaded", "NAV", 4, Kit.code().op(4, 1).op(4, 0).go(34, "a").op(20).op(4, 1).at("a").op(46));
        taken("as deep", "NAV", 4, Kit.code().op(4, 0).op(4, 0).go(34, "a").op(20).op(1, 1).at("a").op(46));
    }

    /** "or of other kinds" */
    private static void otherKinds() {
        refused("A where N lay", "NAV", 4, Kit.code().op(4, 0).op(4, 0).go(34, "a").op(20).op(3).at("a").op(46), 23, 8);
        refused("N where A lay", "NAV", 4, Kit.code().op(4, 1).op(4, 0).go(34, "a").op(20).op(4, 0).at("a").op(46), 23, 8);
        refused("by a jump", "NAV", 4, Kit.code().op(4, 0).op(4, 0).go(34, "c").op(20).op(3).go(42, "c").at("c").op(46), 23, 9);
        taken("the same kinds", "NAV", 4, Kit.code().op(4, 1).op(4, 0).go(34, "a").op(20).op(3).at("a").op(46));
    }

    /** "of one act the least" */
    private static void leastOfOneAct() {
        refused("17 ahead of 18", "NAV", 4, Kit.code().op(45), 17, 0);
        refused("17 ahead of 19", "NAV", 4, Kit.code().op(4, 1).op(9).op(46), 17, 2);
        refused("17 ahead of 22", "NAV", 4, Kit.code().op(9), 17, 0);
        refused("19 ahead of 22", "NAV", 4, Kit.code().op(4, 1).op(19), 19, 2);
        refused("19 ahead of 23", "NAV", 4, values("NNA").go(34, "a").at("a").op(46), 19, 6);
        refused("20 ahead of 21", "NAV", 0, Kit.code().op(4, 2).op(46), 20, 0);
        refused("20 ahead of 22", "NAV", 1, Kit.code().op(4, 2), 20, 0);
        refused("21 ahead of 22", "NAV", 0, Kit.code().op(4, 0), 21, 0);
        refused("21 ahead of 23", "NAV", 1, Kit.code().op(4, 0).go(34, "a").op(4, 0).op(4, 0).at("a").op(46), 21, 7);
        refused("22 ahead of 23", "NAV", 4, values("NNN").go(34, "0"), 22, 6);
    }

    /** What lies on the pile when a member comes back or fails breaks no rule. */
    private static void valuesLeft() {
        taken("46", "NAV", 9, values("NAN").op(46));
        taken("45", "NAN", 9, values("NAN").op(45));
        taken("47", "NAV", 9, values("NAN").op(47));
    }

    /** "each local that is other there becomes BOTH" */
    private static void mixing() {
        // Locals 2, 3, 4: N and unset, A and unset, N and A; 0 stays N, 1 becomes BOTH.
        Kit.Code code = Kit.code().op(4, 0).go(34, "a").op(1, 1).op(5, 2).op(3).op(5, 3).op(1, 1).op(5, 4).go(42, "b").at("a")
            .op(3).op(5, 4).op(1, 1).op(5, 1).at("b").op(0).op(3).op(5, 2).op(46);
        SourceBack x = new SourceBack();
        Due.same("take", Kit.take(x, kit().own("m", "NAV", 6, 1, code).bytes()), 0);
        int behind = 13;
        Due.same("op", x.act(0, 0, behind, 1), 0);
        int[] kinds = {1, 3, 3, 3, 3, 0};
        for (int i = 0; i < kinds.length; i++) {
            Due.same("local " + i, x.kind(0, 0, behind, i), kinds[i]);
        }
        Due.same("no local 6", x.kind(0, 0, behind, 6), -1);
        Due.same("set again", x.kind(0, 0, behind + 3, 2), 2);
        Due.same("the first act", x.kind(0, 0, 0, 2), 0);
    }

    /** "again and again until a round changes nothing .. (else its rule is told, at once)" */
    private static void roundByRound() {
        // In the first round local 2 is N at h; the way back brings A, so that the second round tells 20 there.
        Kit.Code second = Kit.code().op(1, 1).op(5, 2).at("h").op(6, 2, 1).op(3).op(5, 2).op(4, 0).go(34, "h").op(46);
        refused("the second round", "NAV", 1, second, 20, 4);
        // The rule of a later act in the first round is told ahead of that.
        Kit.Code first = Kit.code().op(1, 1).op(5, 2).at("h").op(6, 2, 1).op(3).op(5, 2).op(4, 0).go(34, "h").op(9).op(46);
        refused("the first round", "NAV", 1, first, 17, 15);
        // An act that is reached by a way back alone is looked at in the next round.
        Kit.Code back = Kit.code().go(42, "b").at("a").op(9).op(46).at("b").op(4, 0).go(34, "a").op(4, 2).op(46);
        refused("what comes in order, then what was reached", "NAV", 1, back, 20, 10);
        Kit.Code alone = Kit.code().go(42, "b").at("a").op(9).op(46).at("b").op(4, 0).go(34, "a").op(46);
        refused("then what was reached", "NAV", 1, alone, 17, 3);
        // BOTH comes round by round: 2 from 3, 3 from 4, 4 from none.
        Kit.Code chain = Kit.code().op(1, 1).op(5, 2).op(1, 1).op(5, 3).op(1, 1).op(5, 4).at("h").op(4, 2).op(20).op(4, 3).op(5, 2)
            .op(4, 4).op(5, 3).op(3).op(5, 4).op(4, 0).go(34, "h").op(46);
        refused("the first that is told", "NAV", 1, chain, 20, 19);
    }

    /** A round that reaches no more acts, but makes a local BOTH, is not the last. */
    private static void mixedLate() {
        Kit.Code code = Kit.code().op(1, 1).op(5, 2).go(42, "c").at("a").op(4, 2).op(20).op(46).at("b").go(42, "a").at("c").op(4, 0)
            .go(34, "b").op(3).op(5, 2).go(42, "c");
        refused("in the fourth round", "NAV", 1, code, 20, 7);
    }

    /** What is known of one member is not known of the next. */
    private static void oneByOne() {
        Kit.Code loops = Kit.code().at("a").op(1, 1).op(5, 40).op(3).op(5, 3).go(42, "a");
        Kit.Code plain = Kit.code().at("a").op(0).go(42, "a");
        SourceBack x = new SourceBack();
        Due.same("take", Kit.take(x, new Kit("F").own("a", "V", 60, 1, loops).own("b", "V", 60, 1, plain).bytes()), 0);
        for (int m = 0; m < 2; m++) {
            Due.same("local 40 of " + m, x.kind(0, m, 0, 40), m == 0 ? 3 : 0);
            Due.same("local 3 of " + m, x.kind(0, m, 0, 3), m == 0 ? 3 : 0);
            Due.same("local 4 of " + m, x.kind(0, m, 0, 4), 0);
        }
        // The first member has acts at 0, 1 and 2; the second one's only act has no act within it.
        for (int goal = 1; goal <= 3; goal++) {
            Kit kit = new Kit("F").own("a", "V", 0, 0, Kit.code().op(0).op(0).op(0).op(46)).own("b", "V", 0, 0, Kit.code().go(42, "" + goal));
            Due.same("to " + goal, Kit.take(new SourceBack(), kit.bytes()), told(16, kit.bytes().length - 3));
        }
        SourceBack y = new SourceBack();
        Due.same("take", Kit.take(y, new Kit("F").own("a", "NV", 1, 1, Kit.code().op(4, 0).op(47)).own("b", "V", 0, 0, Kit.code().op(46).op(0))
            .bytes()), 0);
        Due.same("reached", y.act(0, 0, 1, 2), 1);
        Due.same("not reached", y.act(0, 1, 1, 2), 0);
        Due.same("its pile", y.act(0, 1, 1, 3), -1);
        // The first block of a is a head, that of b is not, nor is anything of it met.
        SourceBack z = new SourceBack();
        Due.same("take", Kit.take(z, new Kit("F").own("a", "NV", 1, 1, Kit.code().at("h").op(4, 0).go(34, "h").go(42, "h"))
            .own("b", "NV", 1, 1, Kit.code().op(4, 0).choose("d").at("d").op(46)).bytes()), 0);
        for (int m = 0; m < 2; m++) {
            Due.same("head of " + m, z.block(0, m, 0, 2), 1 - m);
            Due.same("met of " + m, z.block(0, m, 1, 3), 0);
            Due.same("knotted", z.member(0, m, 7), 0);
        }
    }

    /** "those that were REACHED (the first one is)" */
    private static void unreached() {
        SourceBack x = new SourceBack();
        Kit.Code code = Kit.code().go(42, "b").op(9).op(45).op(4, 3).at("b").op(46).op(27);
        Due.same("take", Kit.take(x, kit().own("m", "NAV", 5, 0, code).bytes()), 0);
        int[] reached = {1, 0, 0, 0, 1, 0};
        for (int i = 0; i < reached.length; i++) {
            Due.same("act " + i, x.act(0, 0, i, 2), reached[i]);
            Due.same("pile of " + i, x.act(0, 0, i, 3), reached[i] - 1);
            Due.same("kind at " + i, x.kind(0, 0, i, 0), reached[i] == 1 ? 1 : -1);
            Due.same("block of " + i, x.act(0, 0, i, 4), i == 0 ? 0 : i == 4 ? 1 : -1);
        }
        Due.same("acts", x.member(0, 0, 4), 6);
        Due.same("reached", x.member(0, 0, 5), 2);
        Due.same("blocks", x.member(0, 0, 6), 2);
    }

    private static SourceBack of(Kit.Code code) {
        SourceBack x = new SourceBack();
        Due.same("take", Kit.take(x, kit().own("m", "NAV", 5, 9, code).bytes()), 0);
        return x;
    }

    private static void block(SourceBack x, int b, int... want) {
        for (int what = 0; what < want.length; what++) {
            Due.same("block " + b + ", " + what, x.block(0, 0, b, what), want[what]);
        }
        Due.same("block " + b + " has no more", x.block(0, 0, b, want.length), -1);
    }

    /** "one begins at its first act, at each act that a REACHED jump, if or switch goes to, and behind each ..." */
    private static void blocksBegin() {
        // A jump that is not reached goes to an act within a block: none begins there.
        SourceBack x = of(Kit.code().op(0).at("a").op(0).op(46).go(42, "a"));
        Due.same("blocks", x.member(0, 0, 6), 1);
        block(x, 0, 0, -1, 0, 0, 0);
        // Behind a call none begins, behind an if one does.
        SourceBack y = of(Kit.code().op(4, 1).op(4, 0).of(44, 9).op(20).op(4, 0).go(34, "a").op(0).at("a").op(46));
        Due.same("blocks", y.member(0, 0, 6), 3);
        // Behind each of 45 to 47, where only a jump leads.
        SourceBack z = of(Kit.code().op(4, 0).go(34, "a").op(46).at("a").op(4, 0).op(47));
        Due.same("blocks", z.member(0, 0, 6), 3);
        block(z, 1, 5, 0, 0, 0, 0);
        block(z, 2, 6, 0, 0, 0, 0);
    }

    /** "of 28 to 41: the jump's end, then the act behind; .. 43: for each end other than d, .., one, then d" */
    private static void ways() {
        SourceBack all = of(Kit.code().op(4, 0).choose("d 1:d 2:d").at("d").op(46));
        block(all, 0, 0, -1, 0, 0, 1, 1);
        SourceBack x = of(Kit.code().op(4, 0).choose("d 1:b 2:a 3:b 4:d 5:c").at("a").op(46).at("b").op(46).at("c").op(46)
            .at("d").op(46));
        // Left first is b, then a, c, d; so the order is 0, d, c, a, b.
        block(x, 0, 0, -1, 0, 0, 4, 4, 3, 2, 1);
        Due.same("d", x.block(0, 0, 1, 0), 39);
        Due.same("c", x.block(0, 0, 2, 0), 38);
        Due.same("a", x.block(0, 0, 3, 0), 36);
        Due.same("b", x.block(0, 0, 4, 0), 37);
        SourceBack jump = of(Kit.code().go(42, "a").at("a").op(46));
        block(jump, 0, 0, -1, 0, 0, 1, 1);
        SourceBack fail = of(Kit.code().op(4, 0).op(47));
        block(fail, 0, 0, -1, 0, 0, 0);
    }

    /** "A way to a block that is not later in order goes BACK", to itself, too. */
    private static void heads() {
        SourceBack self = of(Kit.code().at("a").op(6, 0, 1).go(42, "a"));
        block(self, 0, 0, -1, 1, 0, 1, 0);
        Due.same("plain", self.member(0, 0, 7), 0);
        SourceBack x = of(Kit.code().op(0).at("a").op(4, 0).go(34, "a").op(46));
        block(x, 0, 0, -1, 0, 0, 1, 1);
        block(x, 1, 1, 0, 1, 0, 2, 1, 2);
        block(x, 2, 6, 1, 0, 0, 0);
    }

    /** "A block is MET if more than one way that does not go back ends there (an if's two ways to one block are two)" */
    private static void met() {
        SourceBack two = of(Kit.code().op(4, 0).go(34, "a").at("a").op(46));
        block(two, 1, 5, 0, 0, 1, 0);
        // A switch has one way to each of its ends, however many keys go there.
        SourceBack one = of(Kit.code().op(4, 0).choose("d 1:d 2:d").at("d").op(46));
        block(one, 1, 18, 0, 0, 0, 0);
        // One way from ahead, and one back.
        SourceBack back = of(Kit.code().op(0).at("a").op(4, 0).go(34, "a").op(46));
        Due.same("not met", back.block(0, 0, 1, 3), 0);
    }

    /** "the PARENT of Y is of those that rule it, but itself, the last in order" */
    private static void parents() {
        // 0 -> a (12) or 5; 5 -> b (15) or 10; 10 -> b; a -> b.
        SourceBack x = of(Kit.code().op(4, 0).go(34, "a").op(4, 0).go(34, "b").go(42, "b").at("a").op(0).op(0).at("b").op(46));
        Due.same("blocks", x.member(0, 0, 6), 5);
        int[] parents = {-1, 0, 1, 0, 0};
        int[] bytes = {0, 5, 10, 13, 15};
        for (int b = 0; b < 5; b++) {
            int at = x.block(0, 0, b, 0);
            for (int i = 0; i < 5; i++) {
                if (bytes[i] == at) {
                    int parent = x.block(0, 0, b, 1);
                    Due.same("parent of " + at, parent < 0 ? -1 : x.block(0, 0, parent, 0), parents[i] < 0 ? -1 : bytes[parents[i]]);
                }
            }
        }
    }

    /** "KNOTTED if the end of a way that goes back does not rule its beginning, else PLAIN" */
    private static void knots() {
        SourceBack knotted = of(Kit.code().op(4, 0).go(34, "b").at("a").op(6, 0, 1).at("b").op(4, 0).go(38, "a").op(46));
        Due.same("into the midst of a loop", knotted.member(0, 0, 7), 1);
        SourceBack plain = of(Kit.code().op(4, 0).go(34, "z").at("a").op(6, 0, 1).op(4, 0).go(38, "a").at("z").op(46));
        Due.same("a loop behind an if", plain.member(0, 0, 7), 0);
        SourceBack two = of(Kit.code().at("a").op(6, 0, 1).at("b").op(4, 0).go(38, "b").op(4, 0).go(36, "a").op(46));
        Due.same("a loop in a loop", two.member(0, 0, 7), 0);
        // A knot that is not reached ties nothing.
        SourceBack far = of(Kit.code().op(46).op(4, 0).go(34, "b").at("a").op(6, 0, 1).at("b").op(4, 0).go(38, "a").op(46));
        Due.same("unreached", far.member(0, 0, 7), 0);
    }
}
