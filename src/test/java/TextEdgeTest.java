import java.util.Arrays;

/** Terms 6 to 8, promise 11: members with a text that is just short, shallow or small enough, and those without. */
public final class TextEdgeTest {
    public static void main(String[] args) {
        signsAndBeyond();
        smallest();
        manySigns();
        deepIfs();
        deepLoops();
        deepSwitches();
        deepBlocks();
        deepMinus();
        manyVariables();
        manyBlocks();
        longCode();
        namesOfTheLanguage();
        otherKindFound();
        otherSignFound();
        besideAnother();
        constants();
        nothingToPutOut();
        belowStatements();
        belowIfs();
        knottedVariables();
        emptyParts();
        manyBraces();
        labels();
        looksOnce();
        leaving();
        parametersAsOthers();
        locals();
        Due.end();
    }

    private static SourceBack taken(Kit kit) {
        SourceBack x = new SourceBack();
        Due.same("take", Kit.take(x, kit.bytes()), 0);
        return x;
    }

    /** What is told of a member that has a text, or of one that has none. */
    private static void has(String what, Kit kit, boolean text) {
        SourceBack x = taken(kit);
        Due.same(what + ", signs", x.member(0, 0, 8) > 0, text);
        Due.same(what + ", the first sign", x.text(0, 0, 0) > 0, text);
        Due.same(what + ", made again", x.member(0, 0, 9) >= 0, text);
        Due.same(what + ", the made file", x.file(0, 5) > 0, text);
        Due.same(what + ", a byte of it", x.byteAt(0, 1, 0), text ? 0xB0 : -1);
        Due.same(what + ", files with a made one", x.count(5), text ? 1 : 0);
    }

    private static void text(String kinds, int locals, Kit.Code code, String... lines) {
        SourceBack x = taken(new Kit("F").own("m", kinds, locals, 60, code));
        Due.same("text", Kit.text(x, 0, 0), String.join("\n", lines) + "\n");
    }

    /** "Sign i of a member's text." */
    private static void signsAndBeyond() {
        SourceBack x = taken(new Kit("F").own("m", "V", 0, 0, Kit.code().op(46)));
        String all = "void m() {\n  end;\n}\n";
        Due.same("how many", x.member(0, 0, 8), all.length());
        Due.same("the first", x.text(0, 0, 0), 'v');
        Due.same("the last", x.text(0, 0, all.length() - 1), '\n');
        int[] none = {-1, all.length(), all.length() + 1, Integer.MAX_VALUE, Integer.MIN_VALUE};
        for (int i : none) {
            Due.same("sign " + i, x.text(0, 0, i), -1);
        }
        Due.same("text(0, 1, 0)", x.text(0, 1, 0), -1);
        Due.same("text(0, -1, 0)", x.text(0, -1, 0), -1);
        Due.same("text(1, 0, 0)", x.text(1, 0, 0), -1);
    }

    private static void smallest() {
        text("V", 0, Kit.code().at("a").go(42, "a"), "void m() {", "  loop {", "  }", "}");
        text("A", 0, Kit.code().op(3).op(45), "array m() {", "  give none;", "}");
        text("NNNNNNNNV", 8, Kit.code().op(46),
            "void m(number n0, number n1, number n2, number n3, number n4, number n5, number n6, number n7) {", "  end;", "}");
    }

    /** "if it has more than 20000 signs" */
    private static void manySigns() {
        for (int n = 19990; n <= 20010; n++) {
            int left = n - "void m(number n0) {\n  end;\n}\n".length();
            Kit kit = new Kit("F");
            int field = kit.field("G", "f12345678901234567890123456789", 'N');
            Kit.Code code = Kit.code();
            // Lines of 40 signs, "  G.f12345678901234567890123456789 = 1;", then of 11 to 14, "  n0 += -100;".
            while (left >= 84) {
                code.op(1, 1).of(8, field);
                left -= 40;
            }
            for (int lines = (left + 13) / 14; lines > 0; lines--) {
                int line = left / lines;
                code.op(6, 0, new int[] {1, 10, 100, 156}[line - 11]);
                left -= line;
            }
            SourceBack x = taken(kit.own("m", "NV", 1, 1, code.op(46)));
            Due.same(n + " signs", x.member(0, 0, 8), n <= 20000 ? n : -1);
            Due.same("the last sign", x.text(0, 0, n - 1), n <= 20000 ? '\n' : -1);
        }
    }

    /**
     * So many ifs in one another, and some acts within the last: each if's first part gives, its other part is the next
     * if. Polished, they stand behind each other, so that the judge finds nothing deep.
     */
    private static Kit.Code within(int ifs, Kit.Code acts) {
        Kit.Code code = Kit.code();
        for (int i = 0; i < ifs; i++) {
            code.op(4, 0).op(1, i).go(28, "give" + i);
        }
        code.add(acts);
        for (int i = 0; i < ifs; i++) {
            code.at("give" + i).op(1, i).op(45);
        }
        return code;
    }

    /** Acts that make some more, so deep in one another. */
    private static void deep(String what, int more, Kit.Code acts) {
        for (int depth = 58; depth <= 62; depth++) {
            Kit kit = new Kit("F").own("m", "NN", 1, 2, within(depth - more, acts));
            has(what + ", " + depth + " deep", kit, depth <= 60);
        }
    }

    private static Kit.Code give() {
        return Kit.code().op(4, 0).op(45);
    }

    /** "more than 60 deep (blocks, loops, ifs, switches in one another)": as TREE makes it, ahead of polishing. */
    private static void deepIfs() {
        deep("ifs", 0, give());
        deep("an if in the first part", 2, Kit.code().op(4, 0).go(34, "p").op(1, 7).op(45).at("p").op(4, 0).go(36, "q").op(1, 8).op(45)
            .at("q").op(4, 0).op(45));
        deep("an if in the other part", 2, Kit.code().op(4, 0).go(34, "p").op(4, 0).go(36, "q").op(1, 8).op(45).at("q").op(4, 0).op(45)
            .at("p").op(1, 7).op(45));
    }

    private static void deepLoops() {
        deep("a loop", 1, Kit.code().at("h").op(6, 0, 1).go(42, "h"));
        deep("a loop in a loop", 4, Kit.code().at("h").op(0).at("i").op(4, 0).go(38, "i").op(4, 0).go(36, "h").op(4, 0).op(45));
        // Both ways of the if go back, so that there is nothing within it.
        deep("an if in a loop", 2, Kit.code().go(42, "h").at("x").op(4, 0).go(34, "h").at("h").op(6, 0, 1).go(42, "x"));
        deep("a switch in a loop", 2, Kit.code().go(42, "h").at("x").op(4, 0).choose("h 1:h").at("h").op(6, 0, 1).go(42, "x"));
    }

    private static void deepSwitches() {
        deep("a switch", 1, Kit.code().op(4, 0).choose("d 5:e").at("e").op(1, 7).op(45).at("d").op(4, 0).op(45));
        deep("a switch in a case", 2, Kit.code().op(4, 0).choose("d 5:e").at("e").op(4, 0).choose("f 6:g").at("f").op(1, 7).op(45)
            .at("g").op(1, 8).op(45).at("d").op(4, 0).op(45));
        deep("a switch in default", 2, Kit.code().op(4, 0).choose("d 5:e").at("e").op(1, 7).op(45).at("d").op(4, 0)
            .choose("f 6:g").at("f").op(1, 7).op(45).at("g").op(4, 0).op(45));
    }

    /** A block around an if is one of those that are counted; polishing would take it away. */
    private static void deepBlocks() {
        deep("an if in a block", 2, Kit.code().op(4, 0).go(34, "z").op(6, 0, 1).at("z").op(4, 0).op(45));
        deep("an if in two blocks", 4, Kit.code().op(4, 0).go(34, "y").op(4, 0).go(36, "z").op(6, 0, 1).at("y").op(6, 0, 2).at("z")
            .op(4, 0).op(45));
        for (int n = 58; n <= 61; n++) {
            Kit.Code code = Kit.code();
            StringBuilder want = new StringBuilder("void m(number n0) {\n");
            for (int i = 0; i < n; i++) {
                code.op(4, 0).go(34, "z");
                want.append("  ".repeat(i + 1)).append("if (n0 != 0) {\n");
            }
            want.append("  ".repeat(n + 1)).append("n0 += 1;\n");
            for (int i = n; i > 0; i--) {
                want.append("  ".repeat(i)).append("}\n");
            }
            SourceBack x = taken(new Kit("F").own("m", "NV", 1, 1, code.op(6, 0, 1).at("z").op(46)));
            Due.same(n + " ifs in a block", Kit.text(x, 0, 0), n + 1 <= 60 ? want + "  end;\n}\n" : null);
        }
    }

    /** "if the judge (9) tells an ERROR of it": -(-( .. has two of (, [ and - for each but the last. */
    private static void deepMinus() {
        for (int n = 29; n <= 32; n++) {
            Kit.Code code = Kit.code().op(4, 0);
            for (int i = 0; i < n; i++) {
                code.op(19);
            }
            has(n + " times -", new Kit("F").own("m", "NN", 1, 1, code.op(45)), 2 * n - 1 <= 60);
        }
    }

    /** More than 60 variables with the parameters. */
    private static void manyVariables() {
        for (int n = 58; n <= 62; n++) {
            // n0, and a temporary for each value that is put out below the next.
            Kit.Code code = Kit.code();
            for (int i = 0; i < n; i++) {
                code.op(4, 0).op(21).op(20).op(20);
            }
            has(n + 1 + " variables", new Kit("F").own("m", "NV", 1, 2, code.op(46)), n + 1 <= 60);
        }
        // A local that is N here and A there is two variables.
        for (int n = 29; n <= 31; n++) {
            Kit.Code code = Kit.code();
            for (int i = 0; i < n; i++) {
                code.op(1, 1).op(5, i).op(3).op(5, i);
            }
            has(2 * n + " variables", new Kit("F").own("m", "V", 60, 1, code.op(46)), 2 * n <= 60);
        }
    }

    /** A knotted member's switch has a key for each block: 40 at most. */
    private static void manyBlocks() {
        for (int n = 39; n <= 42; n++) {
            // Two blocks that go to each other, both entered: 5 blocks with the last; then ifs, a block for each.
            Kit.Code code = Kit.code().op(4, 0).go(34, "b").at("a").op(6, 0, 1).at("b").op(4, 0).go(38, "a");
            for (int i = 5; i < n; i++) {
                code.op(4, 0).go(34, "x");
            }
            Kit kit = new Kit("F").own("m", "NV", 1, 1, code.op(0).at("x").op(46));
            SourceBack x = taken(kit);
            Due.same("knotted", x.member(0, 0, 7), 1);
            Due.same("blocks", x.member(0, 0, 6), n);
            has(n + " blocks", kit, n <= 40);
        }
    }

    /** A made code above 4000 bytes: n0 += 1 has 3 here and there; a value put twice 6 here, 11 there. */
    private static void longCode() {
        for (int[] n : new int[][] {{1322, 3}, {1326, 2}}) {
            Kit.Code code = Kit.code();
            for (int i = 0; i < n[0]; i++) {
                code.op(6, 0, 1);
            }
            for (int i = 0; i < n[1]; i++) {
                code.op(4, 0).op(21).op(9).op(5, 0);
            }
            SourceBack x = taken(new Kit("F").own("m", "NV", 1, 2, code.op(46)));
            int bytes = 3 * n[0] + 11 * n[1] + 1;
            Due.same(bytes + " bytes", x.member(0, 0, 8) > 0, bytes <= 4000);
        }
    }

    /** A member, file or field with a word of the language for its name. */
    private static void namesOfTheLanguage() {
        String[] words = {"number", "array", "void", "give", "end", "fail", "drop", "if", "else", "loop", "while", "switch",
            "case", "default", "break", "next", "none", "make", "size"};
        for (String word : words) {
            has(word, new Kit("F").own(word, "V", 0, 0, Kit.code().op(46)), false);
            has(word + "_", new Kit("F").own(word + "_", "V", 0, 0, Kit.code().op(46)), true);
            Kit owner = new Kit("F");
            int field = owner.field(word, "f", 'N');
            has(word + ".f", owner.own("m", "V", 0, 1, Kit.code().of(7, field).op(20).op(46)), false);
            Kit named = new Kit("F");
            int other = named.field("F", word, 'N');
            has("F." + word, named.own("m", "V", 0, 1, Kit.code().of(7, other).op(20).op(46)), false);
            // What is not reached is in no statement.
            Kit unreached = new Kit("F");
            int far = unreached.field("F", word, 'N');
            has("unreached F." + word, unreached.own("m", "V", 0, 1, Kit.code().op(46).of(7, far)), true);
        }
        // The file's own name stands in no text that does not ask for it.
        has("a file named if", new Kit("if").own("m", "V", 0, 0, Kit.code().op(46)), true);
    }

    /** "if he would find for an F.f .. of it one of another kind .. than the act's that it came from" */
    private static void otherKindFound() {
        for (int first = 0; first < 2; first++) {
            for (int op = 7; op <= 8; op++) {
                Kit kit = new Kit("F");
                int number = kit.field("G", "f", first == 0 ? 'N' : 'A');
                int array = kit.field("G", "f", first == 0 ? 'A' : 'N');
                Kit.Code least = Kit.code().op(first == 0 ? 1 : 3);
                Kit.Code other = Kit.code();
                if (op == 7) {
                    least = Kit.code().of(7, number).op(20);
                    other = Kit.code().of(7, array).op(20);
                } else {
                    least = (first == 0 ? Kit.code().op(1, 1) : Kit.code().op(3)).of(8, number);
                    other = (first == 0 ? Kit.code().op(3) : Kit.code().op(1, 1)).of(8, array);
                }
                has("the least entry", kit.own("m", "V", 0, 1, least.op(46)), true);
                Kit again = new Kit("F");
                again.field("G", "f", first == 0 ? 'N' : 'A');
                again.field("G", "f", first == 0 ? 'A' : 'N');
                has("another kind", again.own("m", "V", 0, 1, other.op(46)), false);
            }
        }
        // The file's own field is found ahead of an entry with a lesser number.
        Kit own = new Kit("F");
        int pooled = own.field("F", "f", 'A');
        int mine = own.ownField("f", 'N');
        has("its own", own.own("m", "V", 0, 1, Kit.code().of(7, mine).op(20).op(46)), true);
        Kit other = new Kit("F");
        Due.same("the same entry", other.field("F", "f", 'A'), pooled);
        other.ownField("f", 'N');
        has("the pool's", other.own("m", "V", 0, 1, Kit.code().of(7, pooled).op(20).op(46)), false);
        // Alike by kind and name, though another entry.
        Kit twice = new Kit("F");
        twice.twice = true;
        twice.field("G", "f", 'N');
        int second = twice.field("G", "f", 'N');
        has("alike", twice.own("m", "V", 0, 1, Kit.code().of(7, second).op(20).op(46)), true);
    }

    private static void otherSignFound() {
        String[] results = {"N", "A", "V"};
        for (String first : results) {
            for (String other : results) {
                Kit kit = new Kit("F");
                kit.twice = true;
                kit.member("G", "h", "NA" + first);
                int entry = kit.member("G", "h", "NA" + other);
                Kit.Code code = Kit.code().op(1, 1).op(3).of(44, entry).op(46);
                has(first + " found for " + other, kit.own("m", "V", 0, 2, code), first.equals(other));
            }
        }
        // Eight parameters of either kind: the member's own is found, whatever they are.
        for (int bits = 0; bits < 256; bits += 5) {
            StringBuilder sign = new StringBuilder();
            Kit.Code code = Kit.code();
            StringBuilder terms = new StringBuilder();
            for (int i = 0; i < 8; i++) {
                boolean array = (bits >> i & 1) == 1;
                sign.append(array ? 'A' : 'N');
                code = array ? code.op(3) : code.op(1, i);
                terms.append(i > 0 ? ", " : "").append(array ? "none" : "" + i);
            }
            Kit kit = new Kit("F");
            kit.member("G", "h", "AANNAANNA");
            kit.member("G", "h", sign.substring(0, 7) + "V");
            int entry = kit.member("G", "h", sign + "V");
            SourceBack x = taken(kit.own("m", "V", 0, 8, code.of(44, entry).op(46)));
            String want = "void m() {\n  G.h(" + terms + ");\n  end;\n}\n";
            Due.same(sign.toString(), Kit.text(x, 0, 0), sign.toString().equals("AANNAANN") ? null : want);
        }
        Kit kinds = new Kit("F");
        kinds.member("G", "h", "AA");
        int entry = kinds.member("G", "h", "NN");
        has("other parameters", kinds.own("m", "V", 0, 2, Kit.code().op(1, 1).of(44, entry).op(46)), true);
    }

    /** A member without a text has none, whatever was shown ahead of it. */
    private static void besideAnother() {
        Kit.Code deep = Kit.code();
        for (int i = 0; i < 61; i++) {
            deep.op(4, 0).op(1, i).go(28, "x" + i).op(46).at("x" + i);
        }
        Kit.Code minus = Kit.code().op(4, 0);
        for (int i = 0; i < 31; i++) {
            minus.op(19);
        }
        Kit.Code wide = Kit.code();
        for (int i = 0; i < 58; i++) {
            wide.op(4, 0).go(34, "z");
        }
        for (int i = 0; i < 200; i++) {
            wide.op(6, 0, 1);
        }
        Kit kit = new Kit("F");
        kit.field("G", "f", 'N');
        int other = kit.field("G", "f", 'A');
        kit.own("a", "V", 0, 0, Kit.code().op(46));
        kit.own("kind", "V", 0, 1, Kit.code().of(7, other).op(20).op(46));
        kit.own("deep", "NV", 1, 2, deep.op(46));
        kit.own("minus", "NV", 1, 2, minus.op(20).op(46));
        kit.own("wide", "NV", 1, 1, wide.at("z").op(46));
        kit.own("b", "V", 0, 0, Kit.code().op(46));
        SourceBack x = taken(kit);
        for (int m = 0; m < 6; m++) {
            boolean text = m == 0 || m == 5;
            Due.same("signs of " + m, x.member(0, m, 8), text ? 20 : -1);
            Due.same("made again " + m, x.member(0, m, 9), text ? 2 : -1);
            Due.same("the first sign of " + m, x.text(0, m, 0), text ? 'v' : -1);
        }
    }

    /** "a number's digits (- ahead if it is below 0)" */
    private static void constants() {
        long[] numbers = {0, 1, -1, 9, 10, -10, 127, 128, -128, -129, 999999999999999999L, 1000000000000000000L,
            Long.MAX_VALUE, Long.MIN_VALUE, Long.MIN_VALUE + 1, -1000000000000000000L};
        for (long n : numbers) {
            Kit kit = new Kit("F");
            int entry = kit.number(n);
            SourceBack x = taken(kit.own("m", "N", 0, 1, Kit.code().of(2, entry).op(45)));
            Due.same("number " + n, Kit.text(x, 0, 0), "number m() {\n  give " + n + ";\n}\n");
        }
        for (int n : new int[] {0, 1, 127, 128, 255}) {
            text("N", 0, Kit.code().op(1, n).op(45), "number m() {", "  give " + (byte) n + ";", "}");
            text("NV", 1, Kit.code().op(6, 0, n).op(46), "void m(number n0) {", "  n0 += " + (byte) n + ";", "  end;", "}");
        }
    }

    /** "each of which is no constant and no temporary already" */
    private static void nothingToPutOut() {
        Kit kit = new Kit("F");
        int entry = kit.number(1000);
        Kit.Code code = Kit.code().op(1, 5).of(2, entry).op(3).op(6, 0, 1).op(20).op(22).op(10).op(45);
        SourceBack x = taken(kit.own("m", "NN", 1, 60, code));
        Due.same("constants stay", Kit.text(x, 0, 0),
            "number m(number n0) {\n  n0 += 1;\n  drop none;\n  give 1000 - 5;\n}\n");
        text("NN", 1, Kit.code().op(4, 0).op(21).op(21).op(22).op(23).op(20).op(20).op(20).op(45), "number m(number n0) {",
            "  number t0;", "  t0 = n0;", "  drop t0;", "  drop t0;", "  drop t0;", "  give t0;", "}");
        // What is below what a statement takes, and nothing if that is all.
        text("NV", 1, Kit.code().op(4, 0).op(5, 0).op(46), "void m(number n0) {", "  n0 = n0;", "  end;", "}");
        text("NAV", 2, Kit.code().op(4, 0).op(4, 1).op(4, 0).op(4, 0).op(26).op(46), "void m(number n0, array r1) {",
            "  number t0;", "  t0 = n0;", "  r1[n0] = n0;", "  end;", "}");
    }

    /** Local 0 as N lies below a statement's own: it is put out ahead of it. */
    private static void below(Kit.Code statement, String line, String... behind) {
        Kit kit = new Kit("F");
        kit.ownField("f", 'N');
        kit.member("F", "go", "NV");
        kit.member("F", "get", "NN");
        Kit.Code code = Kit.code().op(4, 0).op(4, 1);
        SourceBack x = taken(kit.own("m", "NNAN", 3, 60, code.add(statement)));
        StringBuilder want = new StringBuilder("number m(number n0, number n1, array r2) {\n  number t0, t1;\n  t0 = n0;\n");
        want.append("  t1 = n1;\n  ").append(line).append("\n");
        for (String one : behind) {
            want.append("  ").append(one).append("\n");
        }
        Due.same(line, Kit.text(x, 0, 0), want + "}\n");
    }

    /** "statements all that lie below what they take (44 with a result, too)" */
    private static void belowStatements() {
        String give = "give t1;";
        below(Kit.code().op(4, 1).op(5, 0).op(45), "n0 = n1;", give);
        below(Kit.code().op(6, 0, 5).op(45), "n0 += 5;", give);
        below(Kit.code().op(4, 1).of(8, 3).op(45), "F.f = n1;", give);
        below(Kit.code().op(4, 1).op(20).op(45), "drop n1;", give);
        below(Kit.code().op(4, 2).op(4, 0).op(4, 1).op(26).op(45), "r2[n0] = n1;", give);
        below(Kit.code().op(4, 1).of(44, 6).op(45), "F.go(n1);", give);
        below(Kit.code().op(4, 1).of(44, 9).op(45), "give F.get(n1);");
        below(Kit.code().op(4, 1).op(45), "give n1;");
        below(Kit.code().op(4, 1).op(47), "fail n1;");
        // What was put out stays a temporary for those that come behind.
        below(Kit.code().op(6, 0, 5).op(6, 0, 6).op(9).op(45), "n0 += 5;", "n0 += 6;", "give t0 + t1;");
        SourceBack x = taken(new Kit("F").own("m", "NV", 1, 9, Kit.code().op(4, 0).op(46)));
        Due.same("end", Kit.text(x, 0, 0), "void m(number n0) {\n  number t0;\n  t0 = n0;\n  end;\n}\n");
    }

    /** "of 28 to 43 when they have taken theirs and it was put out below them": goes to its place ahead of the if. */
    private static void belowIfs() {
        String[] ahead = {"number m(number n0, array r1) {", "  number t0, t1, s0;", "  t0 = n0;", "  s0 = t0;"};
        String[] behind = {"  }", "  t1 = s0;", "  give t1;", "}"};
        String[] conditions = {"n0 == 5", "n0 != 5", "n0 < 5", "n0 <= 5", "n0 > 5", "n0 >= 5", "n0 == 0", "n0 != 0", "n0 < 0", "n0 <= 0",
            "n0 > 0", "n0 >= 0", "r1 == none", "r1 != none"};
        for (int i = 0; i < conditions.length; i++) {
            Kit.Code code = i < 6 ? Kit.code().op(4, 0).op(4, 0).op(1, 5) : Kit.code().op(4, 0).op(4, i < 12 ? 0 : 1);
            SourceBack x = taken(new Kit("F").own("m", "NAN", 2, 60, code.go(28 + i, "a").at("a").op(45)));
            Due.same(conditions[i], Kit.text(x, 0, 0), String.join("\n", ahead) + "\n  if (" + conditions[i] + ") {\n"
                + String.join("\n", behind) + "\n");
        }
        SourceBack x = taken(new Kit("F").own("m", "NAN", 2, 60, Kit.code().op(4, 0).op(4, 0).choose("a 1:b").at("b").op(0).at("a").op(45)));
        Due.same("switch", Kit.text(x, 0, 0), String.join("\n", "number m(number n0, array r1) {", "  number t0, t1, t2, s0;", "  t0 = n0;",
            "  s0 = t0;", "  switch (n0) {", "    case 1: {", "      t1 = s0;", "      s0 = t1;", "    }", "    default: {", "    }", "  }",
            "  t2 = s0;", "  give t2;", "}", ""));
        // A jump is neither if nor switch, and no act at all goes there likewise: the term itself goes to its place.
        for (int i = 0; i < 2; i++) {
            Kit.Code code = Kit.code().op(4, 0).go(34, "a").op(4, 0).op(1, 3).op(9);
            code = i == 0 ? code.go(42, "z").at("a").op(4, 0).at("z").op(45) : code.at("z").op(45).at("a").op(4, 0).go(42, "z");
            SourceBack y = taken(new Kit("F").own("m", "NAN", 2, 60, code));
            Due.same("jump", Kit.text(y, 0, 0), String.join("\n", "number m(number n0, array r1) {", "  number t0, s0;",
                "  if (n0 == 0) {", "    s0 = n0;", "  } else {", "    s0 = n0 + 3;", "  }", "  t0 = s0;", "  give t0;", "}", ""));
        }
    }

    /** "first its variables, none of them parameters, n.. by numbers, s0, then r.., q0, as far as its statements have them" */
    private static void knottedVariables() {
        // Local 0 is n0 and r0; a number and an array go from block to block.
        Kit.Code code = Kit.code().op(1, 1).op(5, 0).op(3).op(4, 0).go(34, "b").at("a").op(20).op(3).op(5, 0).op(1, 2).op(5, 0).op(3).at("b")
            .op(4, 0).go(38, "a").op(20).op(1, 7).op(4, 0).go(34, "y").at("y").op(5, 59).op(46);
        SourceBack x = taken(new Kit("F").own("m", "V", 60, 9, code));
        Due.same("knotted", x.member(0, 0, 7), 1);
        String text = Kit.text(x, 0, 0);
        String head = "void m() {\n  number n0, n59, t0, s0, at;\n  array r0, u0, u1, u2, q0;\n  n0 = 0;\n  n59 = 0;\n  s0 = 0;\n"
            + "  r0 = none;\n  q0 = none;\n  at = 0;\n  loop {\n    switch (at) {\n      case 0: {\n        n0 = 1;\n";
        Due.same("its variables", text.substring(0, Math.min(head.length(), text.length())), head);
    }

    /** "an else that is empty is not there", "A switch always has default .. also if it is empty" */
    private static void emptyParts() {
        text("NV", 1, Kit.code().op(4, 0).go(34, "a").at("a").op(46), "void m(number n0) {", "  if (n0 == 0) {", "  }", "  end;",
            "}");
        text("NV", 1, Kit.code().op(4, 0).go(34, "a").op(0).at("a").op(46), "void m(number n0) {", "  if (n0 == 0) {", "  }",
            "  end;", "}");
        text("NV", 1, Kit.code().op(4, 0).choose("a 1:b").at("b").op(0).at("a").op(46), "void m(number n0) {",
            "  switch (n0) {", "    case 1: {", "    }", "    default: {", "    }", "  }", "  end;", "}");
        text("NV", 1, Kit.code().op(4, 0).choose("a").at("a").op(46), "void m(number n0) {", "  switch (n0) {",
            "    default: {", "      end;", "    }", "  }", "}");
    }

    /** "two blanks for each { that it is in": a switch and its default are two. */
    private static void manyBraces() {
        int n = 45;
        Kit.Code code = Kit.code();
        StringBuilder want = new StringBuilder("void m(number n0) {\n");
        for (int i = 0; i < n; i++) {
            code.op(4, 0).choose("d" + i).at("d" + i);
            want.append("  ".repeat(2 * i + 1)).append("switch (n0) {\n");
            want.append("  ".repeat(2 * i + 2)).append("default: {\n");
        }
        want.append("  ".repeat(2 * n + 1)).append("end;\n");
        for (int i = 2 * n; i > 0; i--) {
            want.append("  ".repeat(i)).append("}\n");
        }
        SourceBack x = taken(new Kit("F").own("m", "NV", 1, 1, code.op(46)));
        Due.same("switches", Kit.text(x, 0, 0), want + "}\n");
    }

    /** "l4: is there only if a next l4; is within" */
    private static void labels() {
        text("NV", 1, Kit.code().op(0).op(0).op(0).op(0).at("h").op(4, 0).go(34, "h").op(6, 0, 1).go(42, "h"),
            "void m(number n0) {", "  loop {", "    if (n0 != 0) {", "      n0 += 1;", "    }", "  }", "}");
        // From within an inner loop a next to the outer one stays.
        text("NV", 1, Kit.code().op(0).op(0).at("h").op(6, 0, 1).at("i").op(4, 0).go(34, "h").op(6, 0, 2).go(42, "i"),
            "void m(number n0) {", "  l2: loop {", "    n0 += 1;", "    loop {", "      if (n0 == 0) {", "        next l2;",
            "      }", "      n0 += 2;", "    }", "  }", "}");
    }

    /** "(looked at once: what stands ahead of one that went is not looked at again)" */
    private static void looksOnce() {
        // The if's two parts end with next; both go, and so it stays as an if without them.
        text("NV", 1, Kit.code().at("h").op(4, 0).go(34, "a").op(6, 0, 1).go(42, "h").at("a").op(6, 0, 2).go(42, "h"),
            "void m(number n0) {", "  loop {", "    if (n0 == 0) {", "      n0 += 2;", "    } else {", "      n0 += 1;",
            "    }", "  }", "}");
    }

    /** The first part of if (n0 == 0) leaves, so that the other, n0 += 9; n0 += 8; end; stands behind the if. */
    private static void leaves(Kit.Code code, String... lines) {
        StringBuilder want = new StringBuilder("void m(number n0) {\n  if (n0 == 0) {\n");
        for (String line : lines) {
            want.append("    ").append(line).append("\n");
        }
        SourceBack x = taken(new Kit("F").own("m", "NV", 1, 60, code));
        Due.same("text", Kit.text(x, 0, 0), want + "  }\n  n0 += 9;\n  n0 += 8;\n  end;\n}\n");
    }

    /** An if's other part, n0 += 9; n0 += 8; end; stands ahead of its first, at a. */
    private static Kit.Code other() {
        return Kit.code().op(4, 0).go(34, "a").op(6, 0, 9).op(6, 0, 8).op(46).at("a");
    }

    /** "LEAVES: a list whose last statement is give, end, fail, break, next, a loop without condition, .. a switch .." */
    private static void leaving() {
        leaves(other().op(6, 0, 1).op(46), "n0 += 1;", "end;");
        leaves(other().op(1, 1).op(47), "fail 1;");
        leaves(other().at("h").op(6, 0, 1).go(42, "h"), "loop {", "  n0 += 1;", "}");
        leaves(other().op(4, 0).choose("d 1:e").at("d").op(46).at("e").op(1, 2).op(47), "switch (n0) {", "  case 1: {",
            "    fail 2;", "  }", "  default: {", "    end;", "  }", "}");
        // Polished from inside out, an if both of whose parts leave has one of them behind it already.
        leaves(other().op(4, 0).go(36, "e").op(46).at("e").op(1, 2).op(47), "if (n0 < 0) {", "  fail 2;", "}", "end;");
        // A switch that does not leave: it goes on to what is behind both.
        text("NV", 1, Kit.code().op(4, 0).go(36, "z").op(4, 0).go(34, "a").op(6, 0, 9).op(46).at("a").op(4, 0).choose("d 1:e").at("d")
            .op(6, 0, 1).go(42, "z").at("e").op(6, 0, 2).at("z").op(6, 0, 3).op(46), "void m(number n0) {", "  if (n0 >= 0) {",
            "    if (n0 != 0) {", "      n0 += 9;", "      end;", "    }", "    switch (n0) {", "      case 1: {", "        n0 += 2;",
            "      }", "      default: {", "        n0 += 1;", "      }", "    }", "  }", "  n0 += 3;", "  end;", "}");
    }

    /** "parameters are the variables n0, r1, .. of their locals": as the other kind they are told like all others. */
    private static void parametersAsOthers() {
        text("NAV", 3, Kit.code().op(3).op(5, 0).op(1, 1).op(5, 1).op(4, 0).op(20).op(4, 1).op(20).op(46),
            "void m(number n0, array r1) {", "  number n1;", "  array r0;", "  r0 = none;", "  n1 = 1;", "  drop r0;",
            "  drop n1;", "  end;", "}");
    }

    /** Variables of the last locals; those that no statement has are not told. */
    private static void locals() {
        text("V", 60, Kit.code().op(1, 1).op(5, 59).op(3).op(5, 58).op(1, 2).op(5, 31).op(1, 3).op(5, 32).op(46), "void m() {",
            "  number n31, n32, n59;", "  array r58;", "  n59 = 1;", "  r58 = none;", "  n31 = 2;", "  n32 = 3;", "  end;", "}");
        SourceBack x = taken(new Kit("F").own("m", "V", 60, 60, Kit.code().op(46)));
        Due.same("none", Kit.text(x, 0, 0), "void m() {\n  end;\n}\n");
        byte[] made = Kit.bytes(x, 0, 1);
        Due.same("its locals, pile, code", Arrays.copyOfRange(made, made.length - 5, made.length), new byte[] {0, 0, 0, 1, 46});
    }
}
