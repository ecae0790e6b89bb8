/** Promise 11: texts, sign by sign. */
public final class TextTest {
    public static void main(String[] args) {
        signs();
        terms();
        statements();
        putOut();
        shapes();
        places();
        choices();
        knotted();
        without();
        Due.end();
    }

    private static String body(Kit kit, String name, String kinds, int locals, Kit.Code code) {
        SourceBack x = new SourceBack();
        Due.same("take", Kit.take(x, kit.own(name, kinds, locals, 60, code).bytes()), 0);
        return Kit.text(x, 0, 0);
    }

    private static void text(String name, String kinds, int locals, Kit.Code code, String... lines) {
        Due.same(name, body(new Kit("F"), name, kinds, locals, code), String.join("\n", lines) + "\n");
    }

    private static void signs() {
        SourceBack x = new SourceBack();
        Kit.take(x, new Kit("F").own("m", "V", 0, 0, Kit.code().op(46)).bytes());
        String all = "void m() {\n  end;\n}\n";
        for (int i = 0; i < all.length(); i++) {
            Due.same("sign " + i, x.text(0, 0, i), all.charAt(i));
        }
        Due.same("behind", x.text(0, 0, all.length()), -1);
        Due.same("ahead", x.text(0, 0, -1), -1);
        Due.same("no member", x.text(0, 1, 0), -1);
        Due.same("no file", x.text(1, 0, 0), -1);
        Due.same("no file", x.text(-1, 0, 0), -1);
    }

    /** One term that is given; locals 0 and 1 are N, 2 is A. */
    private static void term(Kit.Code code, String want) {
        text("m", "NNAN", 3, code.op(45), "number m(number n0, number n1, array r2) {", "  give " + want + ";", "}");
    }

    private static Kit.Code a() {
        return Kit.code().op(4, 0);
    }

    private static void terms() {
        term(Kit.code().op(1, 5), "5");
        term(Kit.code().op(1, 251), "-5");
        String[] operators = {"+", "-", "*", "/", "%", "&", "|", "^", "<<", ">>"};
        for (int i = 0; i < 10; i++) {
            term(a().op(4, 1).op(9 + i), "n0 " + operators[i] + " n1");
        }
        // The left one in brackets if it is looser, the right one if it is not tighter.
        term(a().op(4, 1).op(9).op(4, 0).op(11), "(n0 + n1) * n0");
        term(a().op(4, 1).op(11).op(4, 0).op(9), "n0 * n1 + n0");
        term(a().op(4, 1).op(4, 0).op(11).op(9), "n0 + n1 * n0");
        term(a().op(4, 1).op(4, 0).op(9).op(9), "n0 + (n1 + n0)");
        term(a().op(4, 1).op(10).op(4, 0).op(9), "n0 - n1 + n0");
        term(a().op(4, 1).op(12).op(4, 0).op(13), "n0 / n1 % n0");
        term(a().op(4, 1).op(4, 0).op(13).op(12), "n0 / (n1 % n0)");
        term(a().op(4, 1).op(14).op(4, 0).op(16).op(4, 1).op(15), "n0 & n1 ^ n0 | n1");
        term(a().op(4, 1).op(15).op(4, 0).op(16).op(4, 1).op(14), "((n0 | n1) ^ n0) & n1");
        term(a().op(4, 1).op(17).op(4, 0).op(9), "(n0 << n1) + n0");
        term(a().op(4, 1).op(9).op(4, 0).op(18), "n0 + n1 >> n0");
        term(a().op(4, 1).op(18).op(4, 0).op(14), "n0 >> n1 & n0");
        // - in front: of a number, another -, or what is looser, in brackets.
        term(a().op(19), "-n0");
        term(a().op(19).op(19), "-(-n0)");
        term(Kit.code().op(1, 5).op(19), "-(5)");
        term(Kit.code().op(1, 251).op(19), "-(-5)");
        term(a().op(4, 1).op(11).op(19), "-(n0 * n1)");
        term(a().op(19).op(4, 1).op(11), "-n0 * n1");
        term(a().op(4, 1).op(19).op(11), "n0 * -n1");
        term(a().op(1, 251).op(10), "n0 - -5");
        term(Kit.code().op(4, 2).op(4, 0).op(25).op(19), "-r2[n0]");
        term(Kit.code().op(4, 2).op(4, 0).op(4, 1).op(9).op(25).op(4, 0).op(11), "r2[n0 + n1] * n0");
        term(Kit.code().op(4, 2).op(27), "size(r2)");
        term(Kit.code().op(3).op(27), "size(none)");
        term(a().op(4, 1).op(9).op(24).op(27), "size(make(n0 + n1))");
        term(a().op(24).op(1, 0).op(25), "make(n0)[0]");
        Kit kit = new Kit("F");
        int number = kit.number(Long.MIN_VALUE);
        int field = kit.ownField("f", 'A');
        int other = kit.field("Other_1", "x", 'N');
        int call = kit.member("Other_1", "go", "NAN");
        Kit.Code code = Kit.code().of(2, number).of(7, field).of(44, call).of(7, other).op(9).op(45);
        Due.same("names", body(kit, "m", "N", 0, code),
            "number m() {\n  give Other_1.go(-9223372036854775808, F.f) + Other_1.x;\n}\n");
    }

    private static void statements() {
        Kit kit = new Kit("F");
        int number = kit.ownField("f", 'N');
        int array = kit.ownField("g", 'A');
        int go = kit.member("F", "go", "NAV");
        Kit.Code code = Kit.code().op(1, 7).op(5, 2).op(3).op(5, 3).op(6, 2, 128).op(4, 2).of(8, number).op(3).of(8, array)
            .op(4, 1).op(20).op(4, 1).op(4, 0).op(4, 2).op(26).op(4, 0).op(4, 1).of(44, go).op(0).op(3).op(5, 0)
            .op(4, 0).op(5, 4).op(4, 2).op(47);
        // Local 0 is n0 as a number and r0 as an array; local 5 is in no statement.
        Due.same("statements", body(kit, "m", "NAA", 6, code), String.join("\n",
            "array m(number n0, array r1) {", "  number n2;", "  array r0, r3, r4;", "  n2 = 7;", "  r3 = none;",
            "  n2 += -128;", "  F.f = n2;", "  F.g = none;", "  drop r1;", "  r1[n0] = n2;", "  F.go(n0, r1);",
            "  r0 = none;", "  r4 = r0;", "  fail n2;", "}", ""));
        text("m", "AA", 1, Kit.code().op(4, 0).op(45), "array m(array r0) {", "  give r0;", "}");
    }

    private static void putOut() {
        text("m", "NN", 1, a().op(21).op(9).op(45),
            "number m(number n0) {", "  number t0;", "  t0 = n0;", "  give t0 + t0;", "}");
        // Constants and temporaries stay as they are.
        text("m", "NN", 1, Kit.code().op(1, 3).op(21).op(9).op(45), "number m(number n0) {", "  give 3 + 3;", "}");
        text("m", "NNN", 2, a().op(4, 1).op(22).op(10).op(45),
            "number m(number n0, number n1) {", "  number t0, t1;", "  t0 = n0;", "  t1 = n1;", "  give t1 - t0;", "}");
        text("m", "NAN", 2, a().op(4, 1).op(23).op(20).op(25).op(45), "number m(number n0, array r1) {",
            "  number t0;", "  array u0;", "  t0 = n0;", "  u0 = r1;", "  drop u0;", "  give u0[t0];", "}");
        text("m", "NNN", 2, a().op(4, 1).op(23).op(10).op(9).op(45), "number m(number n0, number n1) {",
            "  number t0, t1;", "  t0 = n0;", "  t1 = n1;", "  give t1 + (t0 - t1);", "}");
        // Statements put out what lies below what they take.
        text("m", "NNN", 2, a().op(4, 1).op(9).op(6, 0, 1).op(4, 1).op(20).op(45), "number m(number n0, number n1) {",
            "  number t0;", "  t0 = n0 + n1;", "  n0 += 1;", "  drop n1;", "  give t0;", "}");
        Kit kit = new Kit("F");
        int call = kit.member("F", "h", "NN");
        Kit.Code code = Kit.code().op(4, 1).op(4, 0).of(44, call).op(4, 0).of(44, call).op(9).op(20).op(46);
        Due.same("calls in order", body(kit, "m", "NAV", 2, code), String.join("\n", "void m(number n0, array r1) {", "  number t0;", "  array u0;",
            "  u0 = r1;", "  t0 = F.h(n0);", "  drop t0 + F.h(n0);", "  end;", "}", ""));
        Due.same("what is left", body(new Kit("F"), "m", "NAV", 2, Kit.code().op(4, 1).op(4, 0).op(1, 2).op(46)),
            String.join("\n", "void m(number n0, array r1) {", "  number t0;", "  array u0;", "  u0 = r1;", "  t0 = n0;",
            "  end;", "}", ""));
    }

    private static void shapes() {
        text("m", "NN", 1, Kit.code().op(0).at("h").op(4, 0).go(34, "z").op(4, 0).go(36, "h").op(6, 0, 255).op(4, 0)
            .go(38, "z").go(42, "h").at("z").op(4, 0).op(45),
            "number m(number n0) {", "  l1: loop {", "    if (n0 != 0) {", "      if (n0 < 0) {", "        next l1;",
            "      }", "      n0 += -1;", "      if (n0 <= 0) {", "        next l1;", "      }", "    }", "    give n0;",
            "  }", "}");
        text("m", "NNV", 2, Kit.code().op(4, 0).go(34, "e").op(4, 1).go(34, "e").op(6, 0, 1).at("e").op(46),
            "void m(number n0, number n1) {", "  if (n0 != 0) {", "    if (n1 != 0) {", "      n0 += 1;", "    }", "  }",
            "  end;", "}");
        text("m", "NNN", 2, Kit.code().op(4, 0).go(34, "e").op(4, 1).go(35, "t").at("e").op(1, 1).op(45).at("t").op(1, 2)
            .op(45), "number m(number n0, number n1) {", "  if (n0 != 0) {", "    if (n1 != 0) {", "      give 2;", "    }",
            "  }", "  give 1;", "}");
        // Both parts of an if stay where neither leaves.
        text("m", "NV", 1, Kit.code().op(4, 0).go(38, "e").op(6, 0, 1).go(42, "x").at("e").op(6, 0, 2).at("x").op(46),
            "void m(number n0) {", "  if (n0 > 0) {", "    n0 += 2;", "  } else {", "    n0 += 1;", "  }", "  end;", "}");
        // Two ways to one block: an if with nothing in it.
        text("m", "AV", 1, Kit.code().op(4, 0).go(40, "e").at("e").op(46),
            "void m(array r0) {", "  if (r0 == none) {", "  }", "  end;", "}");
        text("m", "AV", 1, Kit.code().op(4, 0).go(41, "e").op(1, 3).op(47).at("e").op(46),
            "void m(array r0) {", "  if (r0 != none) {", "    end;", "  }", "  fail 3;", "}");
        // A loop that never ends, and what is behind it is not reached.
        text("m", "V", 0, Kit.code().at("h").go(42, "h").op(46), "void m() {", "  loop {", "  }", "}");
        // A block that is broken out of from the midst of it.
        text("m", "NNV", 2, Kit.code().op(4, 0).go(34, "e").op(4, 1).go(34, "f").op(6, 0, 1).at("e").op(6, 0, 2).at("f").op(46),
            "void m(number n0, number n1) {", "  b16: {", "    if (n0 != 0) {", "      if (n1 == 0) {", "        break b16;",
            "      }", "      n0 += 1;", "    }", "    n0 += 2;", "  }", "  end;", "}");
        conditions();
    }

    private static void conditions() {
        String[] signs = {"==", "!=", "<", "<=", ">", ">="};
        for (int i = 0; i < 6; i++) {
            text("m", "NNN", 2, Kit.code().op(4, 0).op(4, 1).go(28 + i, "a").op(1, 1).op(45).at("a").op(1, 2).op(45),
                "number m(number n0, number n1) {", "  if (n0 " + signs[i] + " n1) {", "    give 2;", "  }", "  give 1;", "}");
            text("m", "NNN", 2, Kit.code().op(4, 0).op(4, 1).op(9).go(34 + i, "a").op(1, 1).op(45).at("a").op(1, 2).op(45),
                "number m(number n0, number n1) {", "  if (n0 + n1 " + signs[i] + " 0) {", "    give 2;", "  }", "  give 1;", "}");
            // The part of the jump goes on: the other condition with the part that leaves.
            String other = signs[new int[] {1, 0, 5, 4, 3, 2}[i]];
            text("m", "NV", 1, Kit.code().at("h").op(4, 0).go(34 + i, "h").op(46),
                "void m(number n0) {", "  loop {", "    if (n0 " + other + " 0) {", "      end;", "    }", "  }", "}");
        }
    }

    private static void places() {
        // A value goes to another block: by s0, and by q0.
        text("m", "NN", 1, Kit.code().op(4, 0).go(34, "a").op(4, 0).op(19).go(42, "x").at("a").op(1, 5).at("x").op(45),
            "number m(number n0) {", "  number t0, s0;", "  if (n0 == 0) {", "    s0 = 5;", "  } else {", "    s0 = -n0;",
            "  }", "  t0 = s0;", "  give t0;", "}");
        text("m", "NAA", 3, Kit.code().op(4, 1).op(4, 0).go(34, "a").op(20).op(3).at("a").op(45),
            "array m(number n0, array r1) {", "  array u0, u1, u2, q0;", "  u0 = r1;", "  q0 = u0;", "  if (n0 != 0) {",
            "    u1 = q0;", "    drop u1;", "    q0 = none;", "  }", "  u2 = q0;", "  give u2;", "}");
    }

    private static void choices() {
        text("m", "NN", 1, Kit.code().op(4, 0).choose("d -5:b 1:a 2:b 9:d").at("a").op(6, 0, 1).at("b").op(6, 0, 2).at("d")
            .op(4, 0).op(45), "number m(number n0) {", "  b36: {", "    switch (n0) {", "      case -5, 2: {", "      }",
            "      case 1: {", "        n0 += 1;", "      }", "      default: {", "        break b36;", "      }", "    }",
            "    n0 += 2;", "  }", "  give n0;", "}");
        text("m", "NN", 1, Kit.code().op(4, 0).choose("d").at("d").op(4, 0).op(45),
            "number m(number n0) {", "  switch (n0) {", "    default: {", "      give n0;", "    }", "  }", "}");
        text("m", "NN", 1, Kit.code().op(4, 0).choose("d -2147483648:a 2147483647:a").at("a").op(1, 1).op(45).at("d").op(4, 0)
            .op(45), "number m(number n0) {", "  switch (n0) {", "    case -2147483648, 2147483647: {", "      give 1;",
            "    }", "    default: {", "      give n0;", "    }", "  }", "}");
    }

    private static void knotted() {
        text("m", "NAN", 4, Kit.code().op(4, 0).go(34, "b").at("a").op(4, 0).op(5, 3).op(6, 0, 255).at("b").op(6, 0, 254)
            .op(4, 0).go(38, "a").op(4, 1).op(5, 2).op(4, 0).op(45),
            "number m(number n0, array r1) {", "  number n3, at;", "  array r2;", "  n3 = 0;", "  r2 = none;", "  at = 0;",
            "  loop {", "    switch (at) {", "      case 0: {", "        if (n0 == 0) {", "          at = 1;",
            "        } else {", "          at = 3;", "        }", "      }", "      case 1: {", "        n0 += -2;",
            "        if (n0 > 0) {", "          at = 3;", "        } else {", "          at = 2;", "        }", "      }",
            "      case 2: {", "        r2 = r1;", "        give n0;", "      }", "      case 3: {", "        n3 = n0;",
            "        n0 += -1;", "        at = 1;", "      }", "      default: {", "      }", "    }", "  }", "}");
        // With a value that goes from block to block; s0 stands behind the variables.
        text("m", "NN", 2, Kit.code().op(1, 9).op(4, 0).go(34, "b").at("a").op(5, 1).op(1, 2).at("b").op(4, 0).go(38, "a")
            .op(45), "number m(number n0) {", "  number n1, t0, t1, t2, s0, at;", "  n1 = 0;", "  s0 = 0;", "  at = 0;",
            "  loop {", "    switch (at) {", "      case 0: {", "        s0 = 9;", "        if (n0 == 0) {",
            "          at = 1;", "        } else {", "          at = 3;", "        }", "      }", "      case 1: {",
            "        t0 = s0;", "        s0 = t0;", "        if (n0 > 0) {", "          at = 3;", "        } else {",
            "          at = 2;", "        }", "      }", "      case 2: {", "        t1 = s0;", "        give t1;", "      }",
            "      case 3: {", "        t2 = s0;", "        n1 = t2;", "        s0 = 2;", "        at = 1;", "      }",
            "      default: {", "      }", "    }", "  }", "}");
    }

    private static void without() {
        // 59 ifs in one another and the block behind them are 60 deep; one more is too deep.
        for (int n = 59; n <= 60; n++) {
            Kit.Code code = Kit.code();
            for (int i = 0; i < n; i++) {
                code.op(4, 0).go(34, "z");
            }
            code.op(6, 0, 1).at("z").op(4, 0).op(45);
            Due.same(n + " ifs", body(new Kit("F"), "m", "NN", 1, code) == null, n == 60);
        }
        // A word of the language as a name.
        Due.same("next", body(new Kit("F"), "next", "V", 0, Kit.code().op(46)), (String) null);
        Due.same("nexts", body(new Kit("F"), "nexts", "V", 0, Kit.code().op(46)), "void nexts() {\n  end;\n}\n");
        // More than 60 variables: 60 locals and a temporary.
        Kit.Code many = Kit.code();
        for (int i = 1; i < 60; i++) {
            many.op(1, i).op(5, i);
        }
        Due.same("60 variables", body(new Kit("F"), "m", "NN", 60, many.op(4, 0).op(45)) == null, false);
        Kit.Code more = Kit.code();
        for (int i = 1; i < 60; i++) {
            more.op(1, i).op(5, i);
        }
        Due.same("61 variables", body(new Kit("F"), "m", "NN", 60, more.op(4, 0).op(21).op(9).op(45)), (String) null);
        // 20000 signs at most.
        int around = "number m(number n0) {\n  give n0;\n}\n".length();
        for (int n = 19999; n <= 20001; n++) {
            Kit kit = new Kit("F");
            int field = kit.field("G", "f12345678901234567890123456789", 'N');
            Kit.Code code = Kit.code();
            int left = n - around;
            // Lines of 40 signs, then of 11 to 14.
            for (; left >= 84; left -= 40) {
                code.op(1, 1).of(8, field);
            }
            for (int lines = (left + 13) / 14; lines > 0; lines--) {
                int line = left / lines;
                code.op(6, 0, new int[] {1, 10, 100, 156}[line - 11]);
                left -= line;
            }
            String text = body(kit, "m", "NN", 1, code.op(4, 0).op(45));
            Due.same(n + " signs", text == null ? -1 : text.length(), n > 20000 ? -1 : n);
        }
        Kit.Code wide = Kit.code();
        for (int i = 0; i < 58; i++) {
            wide.op(4, 0).go(34, "z");
        }
        for (int i = 0; i < 200; i++) {
            wide.op(6, 0, 1);
        }
        Due.same("too long", body(new Kit("F"), "m", "NN", 1, wide.at("z").op(4, 0).op(45)), (String) null);
        // The judge would find another field or member than the act's.
        Kit fields = new Kit("F");
        fields.field("G", "f", 'N');
        int array = fields.field("G", "f", 'A');
        Due.same("a field of another kind", body(fields, "m", "V", 0, Kit.code().of(7, array).op(20).op(46)), (String) null);
        Kit members = new Kit("F");
        int first = members.member("G", "h", "N");
        members.member("G", "h", "A");
        Due.same("the first", body(members, "m", "V", 0, Kit.code().of(44, first).op(20).op(46)),
            "void m() {\n  drop G.h();\n  end;\n}\n");
        Kit again = new Kit("F");
        again.member("G", "h", "N");
        int second = again.member("G", "h", "A");
        Due.same("the second", body(again, "m", "V", 0, Kit.code().of(44, second).op(20).op(46)), (String) null);
    }
}
