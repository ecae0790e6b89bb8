/** Promise 12: judge, with every error and its place. */
public final class JudgeTest {
    private static byte[] file;

    public static void main(String[] args) {
        Kit kit = new Kit("F");
        kit.ownField("f", 'N');
        kit.ownField("g", 'A');
        kit.field("G", "x", 'A');
        kit.member("G", "h", "NN");
        kit.member("F", "far", "V");
        kit.own("m", "NAN", 2, 2, Kit.code().op(4, 0).op(45));
        kit.own("v", "V", 0, 0, Kit.code().op(46));
        kit.own("many", "NNNNNNNNN", 8, 1, Kit.code().op(4, 0).op(45));
        file = kit.bytes();
        good();
        tokens();
        names();
        kinds();
        terms();
        numbers();
        nested();
        limits();
        atTheEnd();
        tape();
        Due.end();
    }

    /** Each text is judged by a new object, as none is promised for more than 512 calls. */
    private static int judged(String text) {
        SourceBack x = new SourceBack();
        Kit.take(x, file);
        return Kit.judge(x, 0, text);
    }

    /** A # in the text marks the place of the error, and is taken out. */
    private static void error(int error, String text) {
        int place = text.indexOf('#');
        Due.same(text, judged(text.substring(0, place) + text.substring(place + 1)), error + 16 * place);
    }

    /** Within a member with a number n, an array r, and a result that is a number. */
    private static void in(int error, String text) {
        error(error, "number k(number n, array r) {" + text);
    }

    private static void fine(String text) {
        Due.same(text, judged("number k(number n, array r) {" + text + "give n;}"), 0);
    }

    private static void good() {
        Due.same("void", judged("void k(){}"), 0);
        Due.same("blanks", judged(" \n void\nk ( ) { end ; } \n"), 0);
        Due.same("no blanks", judged("number k(number a,array b){number c,d;array e;c=a+1;d=c;e=b;give-a*-5--c;}"), 0);
        fine("n=1;n+=1;F.f=n;F.g=r;r[n]=1;F.v();drop r;G.x[0]=1;");
        fine("if(n==0){}if(n==0){n=1;}else{}loop{give 1;}while(r!=none){}l:loop{next l;}l:while(1<2){next l;}b:{break b;}");
        fine("switch(n){default:{}}switch(n){case 1,-5:{}case 2:{}default:{}}");
        fine("none[0]=1;make(3)[0]=1;(r)[0]=1;F.g[n]=2;n=G.h(n);n=size(r);n=F.m(F.f,F.g);F.far();");
        fine("give 1; n = 2; fail 3; ");
        fine("if (none == (none)) {} if (n == -0) {} if ((n) >= (0)) {} if (0 < 1) {} ");
        fine("n = 1 - -1 + - 1 * -(-1) - --1;");
        Due.same("an array", judged("array k(){array none_;none_=none;give none_;}"), 0);
    }

    private static void tokens() {
        error(1, "#");
        error(1, "  \n#");
        error(1, "#k(){}");
        error(1, "#if k(){}");
        error(1, "number #");
        error(1, "number #give(){}");
        error(1, "number k#{}");
        error(1, "number k(#n){}");
        error(1, "number k(number n,#){}");
        error(1, "number k(number n #number m){}");
        error(1, "number k(number #loop){}");
        error(1, "number k() #;");
        error(1, "void k(){number #;}");
        error(1, "void k(){number a,#;}");
        error(1, "void k(){number a#=1;}");
        error(1, "void k(){end; #number a;}");
        error(1, "void k(){} #end");
        error(1, "void k(){} #!");
        error(1, "void k(){#");
        error(1, "void k(){#\t}");
        error(1, "void k(){#!}");
        error(1, "void #abcdefghijabcdefghijabcdefghijk(){}");
        Due.same("a word of 30", judged("void abcdefghijabcdefghijabcdefghij(){}"), 0);
        in(1, "#;");
        in(1, "#{}");
        in(1, "#else {}");
        in(1, "#case 1: {}");
        in(1, "if #n == 0) {}");
        in(1, "if (n == 0 #{}");
        in(1, "if (n == 0) #n = 1;");
        in(1, "if (n #= 0) {}");
        in(1, "if (n#) {}");
        in(1, "if (n == 0) {} else #if (n == 1) {}");
        in(1, "loop #(n) {}");
        in(1, "l: #if (n == 0) {}");
        in(1, "l: #n = 1;");
        in(1, "break #;");
        in(1, "break #5;");
        in(1, "switch (n) { #}");
        in(1, "switch (n) { case #n: {} default: {} }");
        in(1, "switch (n) { case 1 #{} default: {} }");
        in(1, "switch (n) { case #- 1: {} default: {} }");
        in(1, "switch (n) { default: {} #case 1: {} }");
        in(1, "switch (n) { default #{} }");
        in(1, "n #;");
        in(1, "n #== 1;");
        in(1, "n #+ 1;");
        in(1, "n = #;");
        in(1, "n = 1 #2;");
        in(1, "n = (1 #;");
        in(1, "n = r[1 #);");
        in(1, "n = make #3;");
        in(1, "n += #n;");
        in(1, "n += #- 1;");
        in(1, "n += 1 #+ 1;");
        in(1, "(n) #= 1;");
        in(1, "5 #= 1;");
        in(1, "#- 5[0] = 1;");
        in(1, "F.f #;");
        in(1, "F.#5 = 1;");
        in(1, "F.v() #[0] = 1;");
        in(1, "F.v(#");
        in(1, "F.m(n, #);");
        in(1, "r[0] #+= 1;");
        in(1, "r[0] #;");
        error(1, "void k(){end#");
        // The language's own sign is longer: no + = , no > =.
        in(1, "n #+ = 1;");
        in(1, "if (n > #= 1) {}");
        in(1, "n = n #<= 1;");
    }

    private static void names() {
        error(2, "number k(number a, array #a){}");
        error(2, "number k(number a){array #a;");
        error(2, "number k(){array a, #a");
        in(2, "l: loop { #l: {");
        in(2, "l: { #l: loop {");
        in(2, "l: { #l:");
        in(1, "l: {} l: {}#");
        in(3, "#x = 1;");
        in(3, "#x");
        in(3, "#x !");
        in(3, "n = #x");
        in(3, "n = #x : 1;");
        in(3, "n = 1 + #k;");
        in(3, "l: loop { break #l; }");
        in(3, "l: { next #l; }");
        in(3, "l: {} break #l; }");
        in(3, "loop { next #l");
        in(4, "#F.x = 1;");
        in(4, "#F.v");
        in(4, "#H.f = 1;");
        in(4, "n = #F.h(n);");
        in(4, "n = #G.h(r);");
        in(4, "n = #G.h(n, n)");
        in(1, "n = G.h(n, n#");
        in(4, "n = #G.h()");
        in(4, "n = #F.m(n)");
        in(4, "n = 1 + #F.x !");
    }

    private static void kinds() {
        in(5, "n = #r;");
        in(5, "r = #n;");
        in(5, "r = #(n);");
        in(5, "n = #r 5");
        in(1, "n = r#");
        in(1, "n = r #!");
        in(5, "F.f = #r;");
        in(5, "F.g = #1;");
        in(5, "r[#r] = 1;");
        in(5, "r[0] = #r;");
        in(5, "#n[0] = 1;");
        in(5, "#n[");
        in(5, "#r[0][");
        in(5, "#5[0] = 1;");
        in(5, "#-5[0] = 1;");
        in(5, "#size(r)[0] = 1;");
        in(5, "#F.m(n, r)[0] = 1;");
        in(5, "#F.m(n, r);");
        in(1, "F.m(n, r) #= 1;");
        in(5, "drop #F.v();");
        in(5, "n = #F.v()");
        in(5, "r[#F.v()");
        in(5, "F.v(#F.v()");
        in(5, "#r += 1;");
        in(5, "#r +=");
        in(5, "give #r;");
        in(5, "fail #none;");
        in(5, "switch (#r) {");
        in(5, "#end;");
        in(5, "#end");
        error(5, "void k(){#give 1;}");
        error(5, "void k(){#give");
        error(5, "array k(){give #1;}");
        in(5, "if (#r == r) {");
        in(5, "if (#r < none) {");
        in(5, "if (#none == r) {");
        in(5, "if (n == #none) {");
        in(5, "if (n < #r)");
        in(1, "if (r == r#");
    }

    private static void terms() {
        in(5, "n = #r + 1;");
        in(5, "n = #r +");
        in(5, "n = #r * !");
        in(5, "n = 1 + #r;");
        in(5, "n = 1 + #r * 2;");
        in(5, "n = 1 * #(r) + 2;");
        in(5, "n = -#r;");
        in(5, "n = - #r + 1;");
        in(5, "n = -#(none);");
        in(5, "n = make(#r);");
        in(5, "n = #make(1);");
        in(5, "n = size(#n);");
        in(5, "n = size(#r[0]);");
        in(1, "n = size(n #!");
        in(5, "n = size(#n;");
        in(5, "n = #r[0][0];");
        in(5, "n = r[#r];");
        in(5, "n = 1 + 2 | #none;");
    }

    private static void numbers() {
        fine("n = 9223372036854775807; n = -9223372036854775808; n += 9223372036854775807; n += -9223372036854775808;");
        fine("n = 00000000000000000000000000000000007;");
        in(6, "n = #9223372036854775808;");
        in(6, "n = #-9223372036854775809;");
        in(6, "n = - #9223372036854775808;");
        in(6, "n += #99999999999999999999");
        in(6, "n += #-9223372036854775809;");
        fine("switch (n) { case 2147483647, -2147483648: {} default: {} }");
        in(6, "switch (n) { case #2147483648");
        in(6, "switch (n) { case #-2147483649");
        in(7, "switch (n) { case 1, 2, #1");
        in(7, "switch (n) { case 0: {} case #-0: {}");
        fine("switch (n) { case 1: { switch (n) { case 1: {} default: {} } } case 2: {} default: {} }");
    }

    private static String times(int n, String one) {
        return one.repeat(n);
    }

    private static void nested() {
        String[] opens = {"if (n == 0) {", "loop {", "while (n == 0) {", "if (n == 0) {} else {", "switch (n) { default: {"};
        for (String one : opens) {
            String close = one.startsWith("switch") ? "}}" : "}";
            fine(times(60, one) + times(60, close));
            in(8, times(60, one) + "#" + one);
        }
        StringBuilder labels = new StringBuilder();
        for (int i = 0; i < 60; i++) {
            labels.append("l").append(i).append(i % 2 == 0 ? ": {" : ": loop {");
        }
        fine(labels + times(60, "}"));
        in(8, labels + "#x: {");
        in(8, labels + "#x:");
        in(2, labels + "#l0: {");
        in(8, times(60, "loop {") + "#if");
        fine("n = " + times(60, "(") + "n" + times(60, ")") + ";");
        in(8, "n = " + times(60, "(") + "#(");
        fine("n = " + times(60, "- ") + "n;");
        in(8, "n = " + times(60, "- ") + "#-n;");
        fine("n = " + times(60, "- ") + "-5;");
        fine("n = " + times(59, "r[") + "n" + times(59, "]") + ";");
        in(8, "n = " + times(60, "r[") + "r#[");
        in(8, "n = " + times(30, "size(make(") + "size#(");
        in(8, "n = " + times(60, "G.h(") + "G.h#(n)");
        // Brackets of a condition and those that are closed again do not count.
        fine("if (" + times(60, "(") + "n" + times(60, ")") + " == " + times(60, "-(").substring(0, 60) + "n"
            + times(30, ")") + ") {}");
        fine("n = (n) + (n) - -n * (-n);" + times(70, "n = (n);") + times(70, "if (n == 0) {}"));
    }

    private static void limits() {
        StringBuilder eight = new StringBuilder("number k(number a0");
        for (int i = 1; i < 8; i++) {
            eight.append(", number a").append(i);
        }
        Due.same("8 parameters", judged(eight + "){give a0;}"), 0);
        error(9, eight + ", #number a8");
        error(9, eight + ", #array");
        error(1, eight + ", #a");
        StringBuilder sixty = new StringBuilder("number k(number a0){number a1");
        for (int i = 2; i < 60; i++) {
            sixty.append(", a").append(i);
        }
        Due.same("60 variables", judged(sixty + ";give a0;}"), 0);
        error(9, sixty + ", #a60");
        error(2, sixty + ", #a0");
        StringBuilder keys = new StringBuilder("switch (n) { case 1");
        for (int i = 2; i <= 40; i++) {
            keys.append(i % 10 == 0 ? ": {} case " : ", ").append(i);
        }
        fine(keys + ": {} default: {} }");
        in(9, keys + ", #41");
        in(7, keys + ", #40");
        in(9, keys + ": {} case #-1");
    }

    private static void atTheEnd() {
        in(10, "n = 1;#}");
        in(10, "#}");
        in(10, "give n; n = 1;#} x");
        in(10, "if (n == 0) { give n; }#}");
        in(10, "while (n == 0) { give n; }#}");
        in(10, "b: { if (n == 0) { break b; } give n; }#}");
        in(10, "switch (n) { case 1: { give n; } default: {} }#}");
        in(1, "give n;}#}");
        String[] leaving = {"give n;", "fail n;", "loop {}", "if (n == 0) { give 1; } else { fail 2; }", "b: { give n; }",
            "switch (n) { case 1: { give n; } default: { loop {} } }", "l: loop { next l; }", "n = 1; give n;"};
        for (String one : leaving) {
            Due.same(one, judged("number k(number n, array r) {" + one + "}"), 0);
        }
        // A pile of 60, and of 61.
        fine("n = " + times(59, "n+(") + "n" + times(59, ")") + ";");
        in(9, "n = " + times(60, "n+(") + "n" + times(60, ")") + ";give n;#}");
        in(10, "n = " + times(60, "n+(") + "n" + times(60, ")") + ";#}");
        in(9, "give 1;n = " + times(60, "n+(") + "n" + times(60, ")") + ";give n;" + times(500, "n+=999;") + "give 1;#}");
        // A right 0 or none is not put on the pile.
        fine("if (" + times(59, "n+(") + "n" + times(59, ")") + " == 0) {}");
        in(9, "if (" + times(59, "n+(") + "n" + times(59, ")") + " == 1) {} if (1 == " + times(59, "n+(") + "n" + times(59, ")")
            + ") {} give n;#}");
        // 4000 bytes of code: 8 for n += 999, 1 for end.
        String head = "void k(number n) {" + times(499, "n+=999;") + "n+=1;n+=1;";
        Due.same("3999 bytes", judged(head + "}"), 0);
        Due.same("4000 bytes", judged("void k(number n) {" + times(499, "n+=999;") + "n=n;n+=1;}"), 0);
        error(11, head + "n+=1;#}");
        error(11, head + "n+=1;#} x");
    }

    private static void tape() {
        SourceBack x = new SourceBack();
        Kit.take(x, file);
        Kit.feed(x, "void k(){}");
        Due.same("no such file", x.judge(1), -1);
        Due.same("the tape is empty", x.count(0), 0);
        Kit.feed(x, "void k(){}");
        Due.same("no such file", x.judge(-1), -1);
        Due.same("an empty tape", x.judge(0), 1);
        Due.same("nothing has changed", x.file(0, 6), 0);
    }
}
