/** The tape and texts: the terms' number 2, and promises 14 to 16. */
final class TextSentences {
    private static final String RICH = SentencesTest.RICH;

    private TextSentences() {
    }

    static void ask(Sentences s) {
        grammar(s);
        units(s);
        values(s);
        fault(s);
        uses(s);
        feed(s);
        text(s);
        law(s);
    }

    /** Each is a text of use 1 that gives 1, with k 3, w 5, b 7. */
    private static void ones(Sentences s, String... texts) {
        for (String text : texts) {
            s.run("write(" + text + ", 1) = 1; law(1, 3, 5, 7) = 1");
        }
    }

    /** Each is a text of use 1 that gives 0, with k 3, w 5, b 7. */
    private static void zeros(Sentences s, String... texts) {
        for (String text : texts) {
            s.run("write(" + text + ", 1) = 1; law(1, 3, 5, 7) = 0");
        }
    }

    /** A fault at a place, in a text of use 0; it is no ERROR. */
    private static void faultAt(Sentences s, int place, String... texts) {
        for (String text : texts) {
            s.run("write(" + text + ", 0) = " + (-10 - place) + "; count(10) = 0; told(1) = 0; told(4) = 0");
        }
    }

    /** All 50 bytes; the last unit counts. */
    private static void longest(Sentences s, String first, String between, int of0, int of1) {
        String text = first + between.repeat(23) + between.charAt(0) + "k";
        s.is("bytes of " + text, text.length(), 50);
        s.run("write(" + text + ", 1) = 1; law(1, 0, 0, 0) = " + of0 + "; law(1, 1, 0, 0) = " + of1);
        s.run("write(" + text.substring(1) + ", 1) = 1; write(" + text.substring(0, 49) + ", 1) = -59");
    }

    private static void grammar(Sentences s) {
        s.term("TEXTS are read from THE TAPE (bytes, at most 50): T: A { | A }");
        ones(s, "1", "1|0", "0|1", "0|0|1", "0|0|0|k", "1|0&0", "0&0|1", "(0|1)&1");
        zeros(s, "0|0", "0|0|0", "(1|0)&0");
        longest(s, "!1", "|0", 0, 1);
        faultAt(s, 0, "|", "|k");
        faultAt(s, 2, "k|", "k||k", "k|&k", "k|)");
        s.run("6 * feed(0x6b6b6b6b6b6b6b6b, 8); feed(0x6b6b, 2) = 50; feed(0x6b, 1) = FULL; text(0) = -11");
        s.term("A: B { & B }");
        ones(s, "1&1", "1&1&k", "1&1|0", "0|1&1", "1<2&2<3");
        zeros(s, "1&0", "0&1", "1&1&0", "0&1|0", "1<2&3<2");
        longest(s, "!0", "&1", 0, 1);
        faultAt(s, 0, "&", "&k");
        faultAt(s, 2, "k&", "k&&k", "k&|k");
        s.term("B: S, or S < S, S = S, S > S");
        ones(s, "1<2", "2=2", "2>1", "1<1+1", "1+1>1", "2+1=1+2", "(1<2)=1", "1=(2>1)", "k<w", "b>w");
        zeros(s, "2<2", "3<2", "2=3", "3=2", "2>2", "2>3", "1&1<1", "w<k");
        faultAt(s, 0, "<k", "=", ">1");
        faultAt(s, 2, "k<", "k=", "k>", "k<=l", "k>=l", "k==l", "k<>l");
        faultAt(s, 3, "k<l<p", "k=l=p", "k>l>p", "k<l=p", "k=l>p");
        s.run("""
            write(k<w, 1); law(1, MIN, MAX, 0) = 1; law(1, MAX, MIN, 0) = 0; law(1, MIN, MIN, 0) = 0
            law(1, -1, 0, 0) = 1
            """);
        s.run("""
            write(k>w, 1); law(1, MIN, MAX, 0) = 0; law(1, MAX, MIN, 0) = 1; law(1, MAX, MAX, 0) = 0
            law(1, 0, -1, 0) = 1
            """);
        s.run("""
            write(k=w, 1); law(1, MIN, MAX, 0) = 0; law(1, MIN, MIN, 0) = 1; law(1, MAX, MAX, 0) = 1
            law(1, 65536, 0, 0) = 0
            """);
        s.term("S: P { + P, - P }");
        ones(s, "1+2=3", "9-5-3=1", "9-5+3=7", "2+3*4=14", "20-2*3=14", "1-2=0-1");
        longest(s, "!1", "+0", 0, 1);
        longest(s, "!1", "-0", 0, 0);
        faultAt(s, 0, "+1", "-1");
        faultAt(s, 2, "1+", "1-", "1++1", "1--1", "1+-1");
        s.term("P: Q { * Q, / Q, % Q }");
        ones(s, "2*3=6", "7/2=3", "7%4=3", "8/4/2=1", "8/4*2=4", "2*7%4=2", "7%4*2=6", "9%5%3=1", "(2+3)*4=20");
        longest(s, "!0", "*1", 0, 1);
        longest(s, "!0", "/1", 0, 1);
        longest(s, "!0", "%2", 0, 0);
        faultAt(s, 0, "*1", "/1", "%1");
        faultAt(s, 2, "1*", "1/", "1%", "1**1", "1*/1", "1%%1", "1*-1");
    }

    private static void units(Sentences s) {
        s.term("Q: a NUMBER of 1 to 4 digits, a NAME, ! Q, ( T )");
        ones(s, "0=0000", "9=0009", "9999=5000*2-1", "k=3", "w=5", "b=7", "!0", "!!1", "!!k", "(1)", "((k=3))", "!(0)", "!(k=4)",
            "!0+1=2", "!0*2=2", "(!0)", "(0|1)");
        zeros(s, "!1", "!k", "!!0", "(0)", "!!!1");
        faultAt(s, 0, "", "x", "K", "w", "b", ")", "#", ":", ",", "_", "?");
        faultAt(s, 1, "!", "(", "()", "!)", "!|k", "kk", "k1", "k(", "k!", "!w", "(b");
        faultAt(s, 2, "12k", "12(", "12!", "(k", "!k!", "!1k");
        faultAt(s, 3, "(k))", "(k)k", "(k)(k)", "(k)!k", "(k)1");
        faultAt(s, 4, "12345", "00000", "99991", "1234k");
        s.run("""
            write(l, 1) = -10; write(p, 1) = -10; write(w, 0) = -10; write(b, 0) = -10; write(k, 0) = 1
            write(k, 1) = 1; write(l, 0) = 1; write(p, 0) = 1; write(w, 1) = 1; write(b, 1) = 1
            """);
        s.run("""
            write(9, 0) = 1; law(0, 0, 0, 0) = 9; write(9999, 0) = 1; write(l-9990, 0) = 1; law(0, 0, 9999, 0) = 9
            law(0, 0, 9998, 0) = 8
            """);
        s.term("No blanks");
        faultAt(s, 0, " ", " k");
        faultAt(s, 1, "k ", "k +l", "( k)", "! k", "1 2");
        faultAt(s, 2, "k+ l", "(k )", "12 34");
        s.run("feed(0x096b, 2); text(0) = -11; feed(0x0a, 1); text(0) = -10; feed(0x6b0d, 2); text(0) = -10");
        s.run("""
            feed(0, 1); text(0) = -10; feed(0x00006b, 3); text(0) = -11; feed(0xeb, 1); text(0) = -10
            feed(0xff6b, 2); text(0) = -11; feed(0x80, 1); text(0) = -10
            """);
        open(s);
    }

    private static void open(Sentences s) {
        s.term("At most 5 of ! and ( are open at once");
        ones(s, "!!!!1", "!!!!(1|0)", "(((((1)))))", "!!!!!0", "((((!0))))", "!(!(!0))=1", "!!!!!0&!!!!!0", "(((((1)))))&(((((1)))))",
            "((((1)+(1))))=2", "((((!0)+!0)))=2", "((((!0+!0+!0))))=3");
        faultAt(s, 5, "((((((k))))))", "!!!!!!k", "!!!!!(k)", "((((((", "!!!!!!", "(((((!k)))))", "((!!(!k)))", "!!(((!k)))");
        // one that is closed is open no more
        faultAt(s, 9, "((((k)+(((k))))))", "((((k)+((!k))))");
        faultAt(s, 12, "!!!!!k+!!!!!!k", "!!!!!k+(((((!k)))))", "!!!!!k&((((((k))))))");
    }

    private static void values(Sentences s) {
        s.term("Ints that wrap; / cut, % the rest that it leaves, both by 0 are 0");
        s.run("""
            write(k+w=b, 1); law(1, MAX, 1, MIN) = 1; law(1, MIN, -1, MAX) = 1; law(1, MIN, MIN, 0) = 1
            law(1, MAX, MAX, -2) = 1
            """);
        s.run("write(k-w=b, 1); law(1, MIN, 1, MAX) = 1; law(1, MAX, -1, MIN) = 1; law(1, 0, MIN, MIN) = 1");
        s.run("""
            write(k*w=b, 1); law(1, 65536, 65536, 0) = 1; law(1, MIN, -1, MIN) = 1; law(1, MAX, 2, -2) = 1
            law(1, 46341, 46341, -2147479015) = 1
            """);
        s.run("""
            write(k/w=b, 1); law(1, MIN, -1, MIN) = 1; law(1, 7, 2, 3) = 1; law(1, -7, 2, -3) = 1
            law(1, 7, -2, -3) = 1; law(1, -7, -2, 3) = 1; law(1, 1, 2, 0) = 1; law(1, -1, 2, 0) = 1
            """);
        s.run("""
            write(k/w=b, 1); law(1, 5, 0, 0) = 1; law(1, -5, 0, 0) = 1; law(1, 0, 0, 0) = 1; law(1, MIN, 0, 0) = 1
            law(1, MAX, 0, 0) = 1
            """);
        s.run("""
            write(k%w=b, 1); law(1, MIN, -1, 0) = 1; law(1, 7, 3, 1) = 1; law(1, -7, 3, -1) = 1
            law(1, 7, -3, 1) = 1; law(1, -7, -3, -1) = 1; law(1, 6, 3, 0) = 1
            """);
        s.run("write(k%w=b, 1); law(1, 5, 0, 0) = 1; law(1, -5, 0, 0) = 1; law(1, 0, 0, 0) = 1; law(1, MIN, 0, 0) = 1");
        s.run("""
            write(2+(k|w), 0) = -15; write(2+(k|l), 0); law(0, 0, 0, 0) = 2; law(0, -1, 0, 0) = 3
            law(0, 0, MIN, 0) = 3; law(0, 4, 2, 0) = 3; law(0, 256, 256, 0) = 3
            """);
        s.run("""
            write(2+(k&l), 0); law(0, 0, 0, 0) = 2; law(0, -1, 0, 0) = 2; law(0, 0, MIN, 0) = 2; law(0, 4, 2, 0) = 3
            law(0, -1, MIN, 0) = 3
            """);
        s.run("""
            write(2+!k, 0); law(0, 0, 0, 0) = 3; law(0, 1, 0, 0) = 2; law(0, -1, 0, 0) = 2; law(0, MIN, 0, 0) = 2
            law(0, 256, 0, 0) = 2
            """);
        s.run("""
            write(2+(k<l)+2*(k=l)+4*(k>l), 0); law(0, 0, 1, 0) = 3; law(0, 1, 1, 0) = 4; law(0, 1, 0, 0) = 6
            law(0, MIN, MAX, 0) = 3; law(0, MAX, MIN, 0) = 6
            """);
        // what stands behind a | that is true, or a & that isn't, may go by 0
        ones(s, "1|1/0", "!(0&1/0)", "!(1/0|0%0)");
    }

    private static void fault(Sentences s) {
        s.term("FAULT: the place of the first byte with which no TEXT goes on; how many there are, if it ends too early");
        s.run("text(0) = -10; text(1) = -10; told(1) = 0");
        faultAt(s, 0, "", "x", "xx", ")k(");
        faultAt(s, 1, "kx", "!", "(", "kxx");
        faultAt(s, 2, "k+", "k+x+x", "(k", "k+)");
        // 49 bytes and one more that is wrong; 50 that end too early, by what is awaited and by what is open
        String most = "k" + "+k".repeat(24);
        s.run("write(" + most + "x, 0) = -59; write(" + most + "+, 0) = -60; write((" + most + ", 0) = -60; write(!" + most + ", 0) = 1");
        s.run("write(" + most.substring(0, 47) + "+(k, 0) = -60; write(" + most.substring(0, 47) + "+!!, 0) = -60; write(" + most.substring(0, 45) + "+1234, 0) = 1");
    }

    private static void uses(Sentences s) {
        s.term("USES: 0 JUMPS, NAMES k SKILL, l LOAD, p the beats of THE RHYME; held within 1 to 9; without a TEXT 1+l/20");
        s.run("""
            crosser(0, 7, 0); ofCrosser(0, 7) = 1; change(0, 1, 19); ofCrosser(0, 7) = 1; change(0, 1, 20); ofCrosser(0, 7) = 2
            change(0, 1, 99); ofCrosser(0, 7) = 5; change(0, 1, 3)
            write(k, 0); ofCrosser(0, 7) = 7; write(l, 0); ofCrosser(0, 7) = 3; write(p, 0); ofCrosser(0, 7) = 4
            change(0, 0, 0); write(k, 0); ofCrosser(0, 7) = 1; change(0, 0, 9); ofCrosser(0, 7) = 9
            write(l, 0); change(0, 1, 9); ofCrosser(0, 7) = 9; change(0, 1, 10); ofCrosser(0, 7) = 9; change(0, 1, 0); ofCrosser(0, 7) = 1
            write(p, 0); rhyme(1, 0); ofCrosser(0, 7) = 1; rhyme(9, 0); ofCrosser(0, 7) = 9; rhyme(16, 0); ofCrosser(0, 7) = 9
            write(p-1, 0); rhyme(1, 0); ofCrosser(0, 7) = 1; write(p-7, 0); rhyme(16, 0); ofCrosser(0, 7) = 9; rhyme(15, 0); ofCrosser(0, 7) = 8
            """);
        s.run("""
            law(0, 0, 159, 0) = 8; law(0, 0, 160, 0) = 9; law(0, 0, 180, 0) = 9; law(0, 0, MAX, 0) = 9
            law(0, 0, -1, 0) = 1; law(0, 0, -20, 0) = 1; law(0, 0, MIN, 0) = 1
            """);
        s.term("1 JUMPED, NAMES k SKILL, w WEAR of the PLACE, b the place in THE RHYME; held within 0 to 1; without a TEXT w<100*(k+1)");
        s.run("""
            law(1, 0, 99, 0) = 1; law(1, 0, 100, 0) = 0; law(1, 8, 899, 0) = 1; law(1, 8, 900, 0) = 0
            law(1, 9, 999, 0) = 1; law(1, -1, 0, 0) = 0; law(1, -1, -1, 0) = 1
            """);
        s.run("""
            write(k, 1); law(1, 0, 9, 9) = 0; law(1, 1, 0, 0) = 1; law(1, 2, 0, 0) = 1; law(1, MAX, 0, 0) = 1
            law(1, -1, 9, 9) = 0; law(1, MIN, 9, 9) = 0
            """);
        // he runs in at beat 0, and jumps or trips at beat 1
        String up = "turner(50); crosser(0, 0, 2); go(1); rhyme(2, 2)\n";
        s.run(up + """
            splice(2, 99); then(2, 0, 0) = 1; then(2, 0, 1) = 0; splice(2, 100); then(2, 0, 0) = 3; change(0, 0, 1)
            then(2, 0, 0) = 1; splice(2, 199); then(2, 0, 0) = 1; splice(2, 200); then(2, 0, 0) = 3
            """);
        s.run(up + """
            change(0, 0, 9); splice(2, 999); then(2, 0, 0) = 1; splice(0, 999); splice(2, 0); change(0, 0, 0)
            then(2, 0, 0) = 1
            """);
        s.run(up + """
            write(w=7, 1); then(2, 0, 0) = 3; splice(2, 7); then(2, 0, 0) = 1; splice(2, 8); then(2, 0, 0) = 3
            splice(1, 7); then(2, 0, 0) = 3
            """);
        s.run(up + """
            write(b=1, 1); then(2, 0, 0) = 1; write(b=0, 1); then(2, 0, 0) = 3; beats(4); write(b=1, 1)
            then(2, 0, 0) = 3
            """);
        s.run("""
            turner(50); crosser(0, 0, 0); go(1); rhyme(16, 32768); write(b=15, 1); then(16, 0, 0) = 1
            write(b=14|b=16, 1); then(16, 0, 0) = 3
            """);
        s.run("""
            turner(50); crosser(0, 0, 0); go(1); write(b=0, 1); then(5, 0, 0) = 1; then(5, 0, 1) = 0; write(b=4, 1)
            then(5, 0, 0) = 3
            """);
        s.run(up + """
            write(k=3, 1); then(2, 0, 0) = 3; change(0, 0, 3); then(2, 0, 0) = 1; write(k-5, 1); then(2, 0, 0) = 3
            write(k+5, 1); then(2, 0, 0) = 1
            """);
    }

    private static void feed(Sentences s) {
        s.of(14, "The n lowest bytes (1 .. 8) of a word, the lowest first, come to THE TAPE: how many there are");
        s.run("feed(0x32313938, 1) = 1; count(10) = 1; text(0) = 1; law(0, 0, 0, 0) = 8");
        s.run("feed(0xff322d39, 3) = 3; text(0) = 1; law(0, 0, 0, 0) = 7");
        s.run("feed(0x2b312b312b312b31, 8) = 8; feed(0x31, 1) = 9; text(0) = 1; law(0, 0, 0, 0) = 5");
        s.run("""
            feed(0xff312b312b312b31, 7) = 7; text(0) = 1; law(0, 0, 0, 0) = 4; feed(0xff312b312b312b31, 8) = 8
            text(0) = -17
            """);
        s.run("""
            feed(0xffffffffffffff31, 1) = 1; text(0) = 1; feed(0x8000000000000031, 8) = 8; text(0) = -11
            feed(-1, 8) = 8; text(0) = -10
            """);
        s.run("feed(0x3535353535353535, 4) = 4; text(0) = 1; feed(0x35353535352b3131, 8) = 8; text(0) = -17");
        s.of(14, "BEYOND");
        s.refuse(RICH, "BEYOND", "feed(0x31, 0)", "feed(0x31, 9)", "feed(0x31, -1)", "feed(0x31, MIN)", "feed(0x31, MAX)", "feed(0, 0)");
        s.of(14, "FULL");
        s.run("""
            6 * feed(0, 8); feed(0, 3) = FULL; feed(0, 8) = FULL; feed(0, 1) = 49; feed(0, 2) = FULL
            feed(0, 1) = 50; feed(0, 1) = FULL; feed(0, 8) = FULL; count(10) = 50
            """);
        s.run("""
            6 * feed(0, 7); feed(0, 8) = 50; text(0) = -10; feed(0, 1) = 1; 5 * feed(0, 8); feed(0, 2) = 43
            feed(0, 8) = FULL; feed(0, 7) = 50
            """);
        s.refuse(RICH + "6 * feed(0x6b2b6b2b6b2b6b2b, 8)", "FULL", "feed(0x31, 1)", "feed(0x31, 8)");
    }

    private static void text(Sentences s) {
        s.of(15, "THE TAPE, which is empty then, is the TEXT of a USE (0, 1), in place of one ahead: 1");
        s.run("""
            feed(0x35, 1); text(0) = 1; count(10) = 0; law(0, 0, 0, 0) = 5; law(1, 0, 99, 0) = 1; feed(0x37, 1)
            text(0) = 1; law(0, 0, 0, 0) = 7; feed(0x30, 1); text(1) = 1; count(10) = 0; law(1, 0, 0, 0) = 0
            law(0, 0, 0, 0) = 7
            """);
        // a short one in place of a long one
        s.run("""
            write(k+k+k+k+k+k+k+k, 0) = 1; law(0, 1, 0, 0) = 8; write(3, 0) = 1; law(0, 1, 0, 0) = 3
            write(1+2*3, 0) = 1; law(0, 0, 0, 0) = 7
            """);
        s.of(15, "BEYOND (THE TAPE stays)");
        s.refuse(RICH + "feed(0x6b, 1)", "BEYOND", "text(-1)", "text(2)", "text(MIN)", "text(MAX)");
        s.run("""
            feed(0x35, 1); text(2) = BEYOND; count(10) = 1; text(-1) = BEYOND; text(0) = 1; law(0, 0, 0, 0) = 5
            text(2) = BEYOND
            """);
        s.of(15, "-10 less the FAULT (no ERROR; the one ahead stays)");
        s.run("""
            write(5, 0) = 1; write(6+, 0) = -12; law(0, 0, 0, 0) = 5; text(0) = -10; law(0, 0, 0, 0) = 5
            write(6), 0) = -11; law(0, 0, 0, 0) = 5; told(1) = 0; told(2) = 0; told(3) = 0; told(4) = 0; told(5) = 0
            """);
        s.run("""
            write(x, 1) = -10; law(1, 0, 99, 0) = 1; law(1, 0, 100, 0) = 0; write(9+, 0) = -12; law(0, 0, 19, 0) = 1
            law(0, 0, 20, 0) = 2
            """);
        s.run("write(k|w, 1) = 1; write(k|w|x, 1) = -14; law(1, 0, 1, 0) = 1; law(1, 0, 0, 5) = 0");
    }

    private static void law(Sentences s) {
        s.of(16, "What a USE gives with its NAMES in order as a, b, c");
        s.run("""
            write(k-l*2+p*3, 0); law(0, 4, 1, 1) = 5; law(0, 5, 0, 0) = 5; law(0, 9, 2, 0) = 5; law(0, 0, 1, 2) = 4
            law(0, 0, 0, 3) = 9; law(0, 0, 0, 4) = 9; law(0, 0, 9, 0) = 1
            """);
        s.run("""
            write(k-w*2+b*3, 1); law(1, 1, 0, 0) = 1; law(1, 0, 1, 0) = 0; law(1, 0, 1, 1) = 1; law(1, 2, 1, 0) = 0
            law(1, 3, 1, 0) = 1
            """);
        // as told, whatever is there: no crossers, names far beyond
        s.run("""
            write(1+(k=l)+2*(l=p), 0); law(0, MIN, MIN, MAX) = 2; law(0, MIN, MAX, MAX) = 3
            law(0, MAX, MAX, MAX) = 4; count(6) = 0; count(3) = 0
            """);
        s.of(16, "BEYOND");
        s.refuse(RICH, "BEYOND", "law(-1, 0, 0, 0)", "law(2, 0, 0, 0)", "law(MIN, 0, 0, 0)", "law(MAX, 0, 0, 0)");
    }
}
