/** Terms 9, promise 12: the judge's limits, each at its last good and its first wrong one; tokens sign by sign. */
public final class JudgeEdgeTest {
    private static final String[] LANGUAGE = {"number", "array", "void", "give", "end", "fail", "drop", "if", "else", "loop",
        "while", "switch", "case", "default", "break", "next", "none", "make", "size"};
    private static final String LONGEST = "abcdefghij_1234567890_ABCDEFGH";

    private static byte[] file;

    public static void main(String[] args) {
        Kit kit = new Kit("F");
        kit.ownField("f", 'N');
        kit.ownField("g", 'A');
        kit.field("Other", LONGEST, 'N');
        kit.member("Other", LONGEST, "N");
        kit.member("Other", "eight", "ANANANANV");
        kit.own("h", "NN", 1, 1, Kit.code().op(4, 0).op(45));
        kit.own("v", "V", 0, 0, Kit.code().op(46));
        file = kit.bytes();
        everySign();
        longestTokens();
        wordsAboveThirty();
        wordsOfTheLanguage();
        blanksBetween();
        minusOfDigits();
        emptyTexts();
        everyCut();
        parameters();
        variables();
        arguments();
        keys();
        numbers();
        nestedStatements();
        nestedTerms();
        notCounted();
        firstToken();
        endReached();
        pileAboveSixty();
        codeAbove();
        behindTheEnd();
        leastOfOneToken();
        asked();
        found();
        wholeWords();
        firstAndLast();
        nothingChanged();
        Due.end();
    }

    private static int judged(String text) {
        SourceBack x = new SourceBack();
        Kit.take(x, file);
        return Kit.judge(x, 0, text);
    }

    /** A # in the text marks the place of the error, and is taken out. */
    private static void error(int error, String text) {
        int place = text.indexOf('#');
        Due.same(text, judged(text.substring(0, place) + text.substring(place + 1)), error + 16 * place);
    }

    private static void good(String text) {
        Due.same(text, judged(text), 0);
    }

    /** Within a member with a number n, an array r, and no result. */
    private static void in(int error, String text) {
        error(error, "void k(number n, array r) {" + text);
    }

    private static void fine(String text) {
        good("void k(number n, array r) {" + text + "}");
    }

    /** "1 a token that can't come (also no token ..)": each sign where a statement may begin. */
    private static void everySign() {
        for (int c = 0; c < 256; c++) {
            boolean letter = c >= 'a' && c <= 'z' || c >= 'A' && c <= 'Z' || c == '_';
            int due = 1 + 16 * 9;
            if (c == ' ' || c == '\n') {
                due = 0;
            } else if (letter) {
                due = 3 + 16 * 9;
            } else if (c >= '0' && c <= '9' || c == '(' || c == '}') {
                due = 1 + 16 * 10;
            }
            Due.same("sign " + c, judged("void k(){" + (char) c + "}"), due);
        }
    }

    /** "TOKENS, each as long as can be" */
    private static void longestTokens() {
        in(1, "n #+ = 1;");
        in(1, "n = n <<#= 1;");
        in(1, "n = n >#>> 1;".replace(">#>>", ">>#>"));
        in(1, "if (n ==#= 0) {}");
        in(1, "if (n = #= 0) {}".replace("= #=", "#= ="));
        in(1, "if (n #! = 0) {}");
        in(1, "if (n < #= 0) {}");
        in(1, "n = n < #< 1;".replace("n < #<", "n #< <"));
        fine("n=n<<1;n=n>>1;if(n<=1){}if(n>=1){}if(n!=1){}if(n==1){}n+=1;");
        in(1, "n = 5#a;");
        in(1, "n = 5 #5;");
        in(3, "n = #a5;");
    }

    /** "WORDS (letters, digits, _, the first no digit, at most 30)", "a word above 30" */
    private static void wordsAboveThirty() {
        String more = LONGEST + "x";
        good("void " + LONGEST + "(){}");
        error(1, "void #" + more + "(){}");
        good("void k(number " + LONGEST + "){}");
        error(1, "void k(number #" + more + "){}");
        good("void k(){number " + LONGEST + ";}");
        error(1, "void k(){array #" + more + ";}");
        fine(LONGEST + ": { break " + LONGEST + "; }");
        in(1, "#" + more + ": {");
        in(1, "l: { break #" + more + ";");
        in(1, "n = #" + more + ";");
        in(1, "#" + more + " = 1;");
        fine("n = Other." + LONGEST + " + Other." + LONGEST + "();");
        in(1, "n = Other.#" + more);
        in(1, "n = #" + more + ".f");
        in(1, "if (n == #" + more + ") {}");
        // The place of a word is its first sign, whatever it has.
        in(1, "n = #a" + "1".repeat(300) + ";");
    }

    /** "Words of the LANGUAGE, no names" */
    private static void wordsOfTheLanguage() {
        for (String word : LANGUAGE) {
            error(1, "void #" + word + "(){}");
            error(1, "void k(number #" + word + "){}");
            error(1, "void k(){number #" + word + ";}");
            error(1, "void k(){l: loop { next #" + word + ";");
            error(1, "void k(number n){n = F.#" + word + ";");
            String other = word.substring(0, word.length() - 1) + "_";
            good("void k(number " + word + "s, number " + other + ", number " + word.toUpperCase() + "){" + word + "s = " + other + ";}");
        }
        good("void k(number at, number l0, number b0, number N){at = N;}");
    }

    /** "blanks and LFs between" */
    private static void blanksBetween() {
        good("\n\n void \n k\n(\n)\n{\n \n}\n\n ");
        error(1, "void k()#\t{}");
        error(1, "void k()#\r\n{}");
        error(1, "#\0void k(){}");
        error(1, "void k(){}#\t");
        error(1, "#voidk(){}");
        good("void k(number n){if(n==0){n=-n- -1--1;}else{loop{}}}");
    }

    /** "a - directly ahead of digits (no blank between), where a first may stand, belongs to them; so of k" */
    private static void minusOfDigits() {
        fine("n = -9223372036854775808; n = n-5; n = n -5; n = n--5; n = n - -5; n = --5; n = - 5;");
        in(6, "n = n-#9223372036854775808;");
        in(6, "n = - #9223372036854775808;");
        in(6, "n = -\n#9223372036854775808;");
        in(6, "n = --9223372036854775808; n = #--9223372036854775809;".replace("#--", "-#-"));
        fine("n += -5;");
        in(1, "n += #- 5;");
        in(1, "n += #--5;");
        in(1, "n += #+5;");
        fine("switch (n) { case -5: {} default: {} }");
        in(1, "switch (n) { case #- 5: {} default: {} }");
        in(1, "switch (n) { case 1, #-\n5: {} default: {} }");
    }

    /** "the text's end" */
    private static void emptyTexts() {
        error(1, "#");
        error(1, " #");
        error(1, "\n\n\n#");
        error(1, "void k(){#");
        error(1, "void k(){  #");
    }

    /** A text that is cut has an error: 1 at its end or at the word that was cut, or what is asked ahead of that. */
    private static void everyCut() {
        String text = "number k(number n, array r) { number a; a = 1; l: loop { if (r == none) { next l; } else { a += 5; } "
            + "switch (a) { case 1, -2: { F.f = r[a] * (a - size(F.g)); } default: { give F.h(a); } } } }";
        good(text);
        for (int i = 0; i < text.length(); i++) {
            int got = judged(text.substring(0, i));
            Due.same("cut at " + i + " is refused", got > 0, true);
            Due.same("cut at " + i + ", place", got / 16 <= i, true);
            String rest = text.substring(Math.min(got / 16, i), i);
            Due.same("cut at " + i + ", what is left", got % 16 != 1 || rest.matches("[a-z]*|[-+=!]"), true);
        }
    }

    /** "a ninth parameter (at its kind)" */
    private static void parameters() {
        StringBuilder some = new StringBuilder("void k(");
        for (int n = 1; n <= 8; n++) {
            some.append(n > 1 ? ", " : "").append(n % 2 == 0 ? "array p" : "number p").append(n);
            good(some + "){}");
        }
        error(9, some + ", #number p9){}");
        error(9, some + ", #array p1){}");
        error(9, some + ", #array");
        error(1, some + ", #void p9){}");
        error(1, some + ", #){}");
    }

    /** "a 61st variable with the parameters (at its name)" */
    private static void variables() {
        StringBuilder some = new StringBuilder("void k(number a1, array a2){number a3");
        for (int n = 4; n <= 60; n++) {
            some.append(n % 9 == 0 ? "; array a" : ", a").append(n);
        }
        good(some + ";}");
        error(9, some + ", #a61;}");
        error(9, some + "; number #a61;}");
        error(9, some + "; number #a61");
        error(2, some + ", #a1;}");
        error(1, some + "; number #;}");
        StringBuilder alone = new StringBuilder("void k(){number a1");
        for (int n = 2; n <= 60; n++) {
            alone.append(", a").append(n);
        }
        good(alone + ";}");
        error(9, alone + ", #a61;}");
    }

    /** "a member with the kinds of these terms": none, eight and more than eight of them. */
    private static void arguments() {
        fine("Other.eight(r, n, r, n, r, n, r, n);");
        in(4, "#Other.eight(r, n, r, n, r, n, r);");
        in(4, "#Other.eight(r, n, r, n, r, n, r, n, r);");
        in(4, "#Other.eight(r, n, r, n, r, n, r, r);");
        in(4, "#Other.eight(n, n, r, n, r, n, r, n);");
        in(4, "#Other.eight();");
        in(4, "#Other.eight(" + "n, ".repeat(40) + "n);");
        in(4, "#F.v(n);");
        fine("F.v();");
    }

    private static String keys(int from, int to) {
        StringBuilder all = new StringBuilder();
        for (int k = from; k <= to; k++) {
            all.append(k > from ? ", " : "").append(k);
        }
        return all.toString();
    }

    /** "a 41st key of a switch", "7 (at k) one told in that switch" */
    private static void keys() {
        fine("switch (n) { case " + keys(1, 40) + ": {} default: {} }");
        in(9, "switch (n) { case " + keys(1, 40) + ", #41: {} default: {} }");
        in(9, "switch (n) { case " + keys(1, 40) + ": {} case #41");
        in(7, "switch (n) { case " + keys(1, 40) + ", #1: {} default: {} }");
        // Each switch has keys of its own, within and behind another.
        fine("switch (n) { case " + keys(1, 40) + ": { switch (n) { case " + keys(1, 40) + ": {} default: {} } } default: {} }"
            + "switch (n) { case " + keys(1, 40) + ": {} default: {} }");
        in(9, "switch (n) { case " + keys(1, 39) + ": { switch (n) { case 1: {} default: {} } } case 40: {} case #41: {}");
        in(7, "switch (n) { case 5: { switch (n) { case 6: {} default: {} } } case 6: {} case #5: {}");
        in(7, "switch (n) { case -1, 1, 01, ".replace("01", "#01"));
        in(7, "switch (n) { case 0, #-0");
        fine("switch (n) { default: {} }");
        in(1, "switch (n) { case #: {} default: {} }");
        in(1, "switch (n) { case 1, #: {} default: {} }");
        in(1, "switch (n) { case 1: {} #}");
    }

    /** "6 (at the digits, or their -) a number that is not - 2^63 .. 2^63 - 1 (k of a case: - 2^31 .. 2^31 - 1)" */
    private static void numbers() {
        fine("n = 9223372036854775807;");
        in(6, "n = #9223372036854775808;");
        fine("n = -9223372036854775808;");
        in(6, "n = #-9223372036854775809;");
        in(6, "n = #18446744073709551616;");
        in(6, "n = #-18446744073709551616;");
        in(6, "n = #92233720368547758070;");
        in(6, "n = #" + "9".repeat(300) + ";");
        fine("n = " + "0".repeat(300) + "9223372036854775807;");
        fine("n += 9223372036854775807; n += -9223372036854775808;");
        in(6, "n += #9223372036854775808;");
        in(6, "n += #-9223372036854775809;");
        fine("switch (n) { case 2147483647, -2147483648: {} default: {} }");
        in(6, "switch (n) { case #2147483648: {} default: {} }");
        in(6, "switch (n) { case #-2147483649: {} default: {} }");
        in(6, "switch (n) { case #4294967296: {} default: {} }");
        in(6, "switch (n) { case #9223372036854775808: {} default: {} }");
        in(6, "switch (n) { case 0, #4294967296");
    }

    /** "8 (at the .. if, loop, while, switch, label) the 61st of blocks, loops, ifs and switches within one another" */
    private static void nestedStatements() {
        String[] opening = {"if (n == 0) {", "loop {", "while (n == 0) {", "switch (n) { case 1: {} default: {",
            "if (n == 0) {} else {", "switch (n) { case 1: {"};
        String[] closing = {"}", "}", "}", "}}", "}", "} default: {} }"};
        for (int i = 0; i < opening.length; i++) {
            fine(opening[i].repeat(60) + closing[i].repeat(60));
            for (String one : opening) {
                in(8, opening[i].repeat(60) + "#" + one);
            }
            in(8, opening[i].repeat(60) + "#x: {");
            in(8, opening[i].repeat(60) + "#x: loop {");
            in(8, opening[i].repeat(60) + "#x: while (n == 0) {");
            // Those that are closed again do not count.
            fine(opening[i].repeat(59) + (opening[i] + closing[i]).repeat(3) + closing[i].repeat(59));
        }
        StringBuilder labels = new StringBuilder();
        for (int i = 0; i < 60; i++) {
            labels.append("l").append(i).append(i % 3 == 0 ? ": {" : i % 3 == 1 ? ": loop {" : ": while (n == 0) {");
        }
        fine(labels + "}".repeat(60));
        in(8, labels + "#x: {");
        in(8, labels + "#if");
        in(8, labels + "#x :");
        in(3, labels + "#x");
    }

    /** "or of (, [ and - in front of terms": at the bracket, or the -. */
    private static void nestedTerms() {
        fine("n = " + "(".repeat(60) + "n" + ")".repeat(60) + ";");
        in(8, "n = " + "(".repeat(60) + "#(");
        in(8, "n = " + "(".repeat(60) + "#-n");
        in(8, "n = " + "(".repeat(60) + "r#[");
        in(8, "n = " + "(".repeat(60) + "size#(");
        in(8, "n = " + "(".repeat(60) + "make#(");
        in(8, "n = " + "(".repeat(60) + "F.h#(");
        fine("n = " + "- ".repeat(60) + "n;");
        in(8, "n = " + "- ".repeat(60) + "#-n;");
        fine("n = " + "r[".repeat(59) + "n" + "]".repeat(59) + ";");
        in(9, "n = " + "r[".repeat(60) + "n" + "]".repeat(60) + ";#}");
        in(8, "n = " + "r[".repeat(60) + "r#[n");
        fine("n = " + "F.h(".repeat(60) + "n" + ")".repeat(60) + ";");
        in(8, "n = " + "F.h(".repeat(60) + "F.h#(n");
        fine("n = " + "size(make(".repeat(30) + "n" + ")".repeat(60) + ";");
        in(8, "n = " + "size(make(".repeat(30) + "size#(");
        fine("n = " + "(- r[".repeat(20) + "n" + "])".repeat(20) + ";");
        in(8, "n = " + "(- r[".repeat(20) + "#(");
        in(8, "n = " + "(- r[".repeat(20) + "#-n");
        in(8, "n = " + "(- r[".repeat(20) + "r#[");
    }

    /** "(those ( of if, while and switch are none, nor a - of digits ..)" */
    private static void notCounted() {
        String deep = "(".repeat(60) + "n" + ")".repeat(60);
        fine("if (" + deep + " == " + deep + ") {} while (" + deep + " < " + deep + ") {} switch (" + deep + ") { default: {} }");
        fine("n = " + "(".repeat(60) + "-5" + ")".repeat(60) + ";");
        fine("n = " + "(".repeat(60) + "-5 - -5" + ")".repeat(60) + ";");
        fine("n = " + "(".repeat(60) + "n - n - n" + ")".repeat(60) + ";");
        // Those of a term, and of a statement, that is read do not count.
        fine("n = -n;".repeat(70) + "n = " + "(".repeat(60) + "n" + ")".repeat(60) + ";");
        in(8, "n = -n;".repeat(70) + "n = " + "(".repeat(60) + "#(");
        in(8, "n = n + n * n;".repeat(70) + "n = " + "(".repeat(60) + "#(");
        in(8, "n = (-r[n] + size(make(F.h(n))));".repeat(20) + "n = " + "- ".repeat(60) + "#-n");
        // Side by side, they are not within one another.
        fine("n = " + "(n) + ".repeat(70) + "n;");
        fine("n = " + "-n + ".repeat(70) + "n;");
        fine("n = " + "r[n] + ".repeat(70) + "n;");
        fine("n = " + "F.h(n) + ".repeat(70) + "n;");
        // Statements and terms are counted for themselves.
        fine("loop {".repeat(60) + "n = " + deep + ";" + "}".repeat(60));
    }

    /** "5 (at the term's first token)": of a term with operators that of its leftmost part. */
    private static void firstToken() {
        String[] terms = {"n", "5", "-5", "n + n", "n + n * n", "n * n + n", "n | n ^ n & n << n + n * n", "-n", "- n + n", "(n) + n",
            "(n + n) * n", "r[n]", "r[n] + n", "size(r)", "size(r) - n", "F.f", "F.f + 1", "F.h(n)", "F.h(n) + n", "-(n)", "(((n)))"};
        for (String term : terms) {
            in(5, "r = #" + term + ";");
            in(5, "F.g = #" + term + ";");
            in(5, "n = size(#" + term + ");");
            in(5, "if (" + term + " == #none) {}");
            in(5, "if (" + term + " < #(r)) {}");
            in(5, "n = size(r) + size(#" + term + ") * n;");
        }
        String[] arrays = {"r", "none", "(r)", "((none))", "make(n)", "make(n + n)", "F.g"};
        for (String term : arrays) {
            in(5, "n = #" + term + ";");
            in(5, "n = n + #" + term + ";");
            in(5, "n = #" + term + " + n;");
            in(5, "n = n * n - #" + term + " * n;");
            in(5, "n = -#" + term + ";");
            in(5, "n = r[#" + term + "];");
            in(5, "n = make(#" + term + ");");
            in(5, "r[n] = #" + term + ";");
            in(5, "r[#" + term + "] = n;");
            in(5, "fail #" + term + ";");
            in(5, "switch (#" + term + ") {");
            in(5, "if (n + n == #" + term + ") {");
            in(5, "if (#" + term + " < none) {");
            in(5, "if (#" + term + " == r) {");
            in(5, "if (#" + term + " == n) {");
            in(4, "n = #F.h(" + term + ");");
            fine("if (" + term + " == none) {} if (" + term + " != (none)) {}");
            fine("drop " + term + "; r = " + term + "; n = " + term + "[n]; " + term + "[n] = n;");
        }
    }

    /** "10 the end is REACHED though there is a result" */
    private static void endReached() {
        String[] leaving = {"give n;", "fail n;", "loop {}", "loop { n = 1; }", "if (n == 0) { give 1; } else { give 2; }",
            "b: { give n; }", "b: { loop { break b; } } give 1;", "switch (n) { default: { give 1; } }",
            "switch (n) { case 1: { fail 1; } case 2: { loop {} } default: { give 1; } }", "n = 1; give n;",
            "l: loop { n = 2; next l; }", "if (n == 0) { fail 1; } else { if (n == 1) { give 1; } else { loop {} } }"};
        for (String one : leaving) {
            good("number k(number n) {" + one + "}");
        }
        String[] reached = {"", "n = 1;", "give n; n = 1;", "if (n == 0) { give 1; }", "if (n == 0) { give 1; } else {}",
            "if (n == 0) {} else { give 1; }", "while (0 == 0) { give 1; }", "b: { break b; }", "b: { if (n == 0) { break b; } give 1; }",
            "b: { give n; break b; }", "b: { loop { break b; } }", "b: {}", "switch (n) { default: {} }",
            "switch (n) { case 1: {} default: { give 1; } }", "switch (n) { case 1: { give 1; } default: {} }",
            "loop { give n; } n = 1;", "if (n == 0) { give 1; } else { give 2; } F.v();"};
        for (String one : reached) {
            error(10, "number k(number n) {" + one + "#}");
            good("void k(number n) {" + one.replace("give n", "fail n").replaceAll("give .;", "end;") + "}");
        }
        // No statement but those that are told leaves.
        String[] others = {"n = 1;", "n += 1;", "n += 1000;", "F.f = n;", "F.g = r;", "r[n] = n;", "drop n;", "F.v();", "make(1)[0] = 2;"};
        for (String one : others) {
            error(10, "number k(number n, array r) {" + one + "#}");
            error(10, "number k(number n, array r) { give 1; " + one + "#}");
        }
    }

    /** Of many values on the pile at once: n + (n + ( .. n. */
    private static String piled(int n) {
        return "n + (".repeat(n - 1) + "n" + ")".repeat(n - 1);
    }

    /** "9 a pile above 60" */
    private static void pileAboveSixty() {
        fine("n = " + piled(60) + ";");
        in(9, "n = " + piled(61) + ";#}");
        // An element's array and place lie below; so do the left side of a condition, and what a call has taken so far.
        fine("r[n] = " + piled(58) + ";");
        in(9, "r[n] = " + piled(59) + ";#}");
        fine("if (n == " + piled(59) + ") {}");
        in(9, "if (n == " + piled(60) + ") {}#}");
        fine("if (" + piled(60) + " == 0) {}");
        fine("if (" + piled(60) + " == n - (" + piled(58) + ")) {}");
        in(9, "if (" + piled(60) + " == n - (" + piled(59) + ")) {}#}");
        fine("Other.eight(r, n, r, n, r, n, r, " + piled(53) + ");");
        in(9, "Other.eight(r, n, r, n, r, n, r, " + piled(54) + ");#}");
        // "of whatever acts stand there": those that are not reached, too.
        in(9, "end; n = " + piled(61) + ";#}");
        error(10, "number k(number n) { n = " + piled(61) + ";#}");
    }

    /** "11 a code above 4000 bytes": n += 999 has 8, n += 1 has 3, n = n has 4, the 46 at the end 1. */
    private static void codeAbove() {
        String most = "n+=999;".repeat(499);
        fine(most + "n=n;n+=1;");
        in(11, most + "n=n;n=n;#}");
        fine(most + "n=n;drop n;end;");
        in(11, most + "n=n;drop n;F.v();end;#}");
        in(9, "n = " + piled(61) + ";" + "n+=999;".repeat(480) + "#}");
        error(10, "number k(number n) {" + most + "n=n;n=n;#}");
        error(11, "number k(number n) {" + most + "n=n;n=n;give n;#} x");
    }

    /** "ahead of looking at the token behind; then one that is there is a 1" */
    private static void behindTheEnd() {
        error(1, "void k(){}#}");
        error(1, "void k(){} #void k(){}");
        error(1, "void k(){}\n#;");
        error(1, "void k(){}#!");
        error(1, "void k(){}#" + "a".repeat(31));
        error(10, "number k(){#}!");
        error(10, "number k(){#} x");
    }

    /** "the first ERROR that is met (of one token the least)" */
    private static void leastOfOneToken() {
        String sixty = "loop {".repeat(59) + "l: loop {";
        in(2, sixty + "#l: {");
        in(8, sixty + "#k: {");
        in(5, "n = " + "(".repeat(60) + "#n[");
        in(6, "switch (n) { case " + keys(1, 40) + ", #2147483648");
        in(7, "switch (n) { case " + keys(1, 40) + ", #40");
        // What stands further left is told, whatever its number.
        in(8, "loop {".repeat(60) + "#if (x");
        in(3, "#x = 99999999999999999999;");
        in(6, "n = #99999999999999999999 + x;");
    }

    /** What is asked of terms "as soon as it is read, the token behind it having been looked at (if that is none, 1 ..)" */
    private static void asked() {
        String[] wrong = {"n = #r", "r = #n", "F.f = #r", "F.g = #n", "fail #r", "switch (#r", "n = make(#r", "n = size(#n",
            "n = r[#r", "n = -#r", "n = 1 + #r", "r[n] = #r", "if (n == #r", "if (#r == n", "if (#r == r", "if (#r < none"};
        for (String one : wrong) {
            in(5, one + " ;");
            in(5, one + " 5");
            in(1, one.replace("#", "") + " #!");
            in(1, one.replace("#", "") + " #" + "a".repeat(31));
            in(1, one.replace("#", "") + "#");
        }
        // Of an operator's left one, and of e [, at that token, whatever stands behind it.
        in(5, "n = #r + !");
        in(5, "n = #n[ !");
        in(5, "#n[");
        in(5, "#r += !");
        in(4, "n = #F.x !");
        in(3, "n = #x !");
        in(3, "#x");
        in(4, "#F.v(n) !");
        in(5, "n = #F.v() !");
        in(5, "F.v(#F.v() !");
        error(5, "void k(){#give !");
        error(5, "number k(){#end !");
        in(5, "#F.h(n);");
        in(1, "F.h(n) #!");
        in(1, "F.v() #!");
        in(1, "F.v() #+ 1;");
    }

    /** "of the file itself among its own fields and members, else (or if there is none such) in its pool" */
    private static void found() {
        Kit kit = new Kit("F");
        kit.field("F", "f", 'A');
        kit.field("F", "only", 'A');
        kit.field("G", "f", 'N');
        kit.field("G", "f", 'A');
        kit.member("F", "h", "NA");
        kit.member("F", "h", "AN");
        kit.member("G", "h", "N");
        kit.member("G", "h", "A");
        kit.ownField("f", 'N');
        kit.own("h", "NN", 1, 1, Kit.code().op(4, 0).op(45));
        byte[] before = file;
        file = kit.bytes();
        fine("n = F.f;");
        in(5, "r = #F.f;");
        fine("r = F.only;");
        fine("n = G.f;");
        in(5, "r = #G.f;");
        fine("n = F.h(n);");
        fine("n = F.h(r);");
        fine("n = G.h();");
        in(5, "r = #G.h();");
        in(4, "n = #f.f;");
        in(4, "n = #F.F;");
        file = before;
    }

    /** A name that is longer by one sign, or shorter, is another one. */
    private static void wholeWords() {
        for (char c : "abyzABYZ0189_".toCharArray()) {
            in(4, "n = #F.f" + c + ";");
            in(4, "n = #F" + c + ".f;");
            in(4, "n = #F.h" + c + "(n);");
            in(4, "n = #F" + c + ".h(n);");
            in(3, "n = #n" + c + ";");
            in(3, "l: { break #l" + c + ";");
            fine("l: { l" + c + ": { break l; } }");
            good("void k(number n" + c + ", number n, number n" + c + c + "){}");
        }
        in(4, "n = #Othe." + LONGEST + ";");
        in(4, "n = #Other." + LONGEST.substring(0, 29) + ";");
        in(4, "n = #Other." + LONGEST.substring(0, 29) + "();");
        String first = LONGEST.substring(0, 29);
        good("void k(number " + LONGEST + ", number " + first + "X, number " + first + "){ " + LONGEST + " = " + first + "X; }");
        error(2, "void k(number " + LONGEST + ", number #" + LONGEST + "){}");
        in(3, LONGEST + ": { break #" + first + "X;");
        in(2, LONGEST + ": { #" + LONGEST + ": {");
    }

    /** An entry may be the first of the pool, or the last. */
    private static void firstAndLast() {
        byte[] before = file;
        // 1 FIELD 3.4, 2 MEMBER 3.4 5, 3 G, 4 f, 5 :V, 6 the name F.
        file = pool(6, 4, 0, 3, 0, 4, 'N', 5, 0, 3, 0, 4, 0, 5, 1, 1, 'G', 1, 1, 'f', 3, 0, 'V', 1, 1, 'F');
        fine("n = G.f; G.f();");
        file = pool(6, 5, 0, 3, 0, 4, 0, 5, 4, 0, 3, 0, 4, 'N', 1, 1, 'G', 1, 1, 'f', 3, 0, 'V', 1, 1, 'F');
        fine("n = G.f; G.f();");
        Kit last = new Kit("F");
        last.field("G", "f", 'N');
        file = last.bytes();
        fine("n = G.f;");
        Kit member = new Kit("F");
        member.member("G", "f", "V");
        file = member.bytes();
        fine("G.f();");
        file = before;
    }

    /** A file whose name is the last entry of these. */
    private static byte[] pool(int entries, int... bytes) {
        byte[] all = new byte[8 + bytes.length + 6];
        int[] head = {0xB0, 7, 0xF1, 0x1E, 0, 1, 0, entries};
        for (int i = 0; i < 8; i++) {
            all[i] = (byte) head[i];
        }
        for (int i = 0; i < bytes.length; i++) {
            all[8 + i] = (byte) bytes[i];
        }
        all[8 + bytes.length + 1] = (byte) entries;
        Due.same("take", Kit.take(new SourceBack(), all), 0);
        return all;
    }

    /** "(nothing is changed)", "NONE if there is no such file" */
    private static void nothingChanged() {
        SourceBack x = new SourceBack();
        Kit.take(x, file);
        x.call(0, 0, 0, 1, 2);
        int bytes = x.file(0, 4);
        Due.same("judge", Kit.judge(x, 0, "number h(number n){ F.f = 5; give 1000; }"), 0);
        Due.same("bytes", x.file(0, 4), bytes);
        Due.same("edits", x.file(0, 6), 0);
        Due.same("the call runs", x.state(0, 0), 1);
        Due.same("field", x.field(0, 0, 0), 0);
        int[] none = {-1, 1, 15, 16, Integer.MAX_VALUE, Integer.MIN_VALUE};
        for (int f : none) {
            Due.same("judge(" + f + ")", Kit.judge(x, f, "void k(){}"), -1);
        }
    }
}
