import java.util.NoSuchElementException;

/** At least one test a promise: ordinary inputs, the edges that the document names, and wrong inputs. */
public final class PromiseTest {
    private static final Class<IndexOutOfBoundsException> INDEX = IndexOutOfBoundsException.class;
    private static final Class<IllegalArgumentException> ARGUMENT = IllegalArgumentException.class;
    private static final Class<IllegalStateException> STATE = IllegalStateException.class;
    private static final Class<NoSuchElementException> NO_SUCH = NoSuchElementException.class;
    private static final Class<UnsupportedOperationException> UNSUPPORTED = UnsupportedOperationException.class;
    private static final Class<ArithmeticException> ARITHMETIC = ArithmeticException.class;

    public static void main(String[] args) {
        newObject();
        typing();
        wiping();
        faults();
        parsing();
        readingTrees();
        readingBars();
        looking();
        writing();
        boxes();
        manySignBoxes();
        lines();
        caretAndMoves();
        putting();
        taking();
        undoing();
        binders();
        freeLetters();
        renaming();
        setting();
        settingEdges();
        alike();
        found();
        unlike();
        steps();
        spreading();
        speaking();
        saying();
        hearing();
        shares();
        checksum();
        truth();
        Kit.end("PromiseTest");
    }

    private static void newObject() {
        FormulaKiln kiln = new FormulaKiln();
        Kit.due("new wipe()", kiln.wipe(), 0);
        Kit.due("new hush()", kiln.hush(), 0);
        Kit.due("new fault()", kiln.fault(), -1);
        Kit.due("new checksum()", kiln.checksum(), 7L);
        Kit.due("new isTrue()", kiln.isTrue(), true);
        Kit.fails("new size(0)", INDEX, () -> kiln.size(0));
        Kit.fails("new move('u')", NO_SUCH, () -> kiln.move('u'));
        Kit.fails("new put()", NO_SUCH, kiln::put);
        Kit.fails("new take()", NO_SUCH, kiln::take);
        Kit.fails("new undo()", NO_SUCH, kiln::undo);
        Kit.fails("new meanSize()", ARITHMETIC, kiln::meanSize);
        Kit.fails("new hear()", UNSUPPORTED, kiln::hear);
    }

    private static void typing() {
        String signs = "0123456789abcdefghijklmnopqrstuvwxyz+-*/^_!()|=<>,?S ";
        FormulaKiln kiln = new FormulaKiln();
        int count = 0;
        for (char sign = 0; sign < 300; sign++) {
            char typed = sign;
            if (signs.indexOf(sign) >= 0) {
                count++;
                Kit.due("type(" + sign + ")", kiln.type(sign), count);
            } else {
                Kit.fails("type of " + (int) sign, ARGUMENT, () -> kiln.type(typed));
            }
        }
        Kit.due("all signs", count, signs.length());
        Kit.type(kiln, "1234567");
        Kit.fails("61st sign", STATE, () -> kiln.type('a'));
        Kit.fails("61st sign that is none", ARGUMENT, () -> kiln.type('A'));
        Kit.due("wipe() of 60", kiln.wipe(), 60);
        Kit.due("type() behind wipe()", kiln.type('a'), 1);
    }

    private static void wiping() {
        FormulaKiln kiln = new FormulaKiln();
        Kit.type(kiln, "a b");
        Kit.due("wipe()", kiln.wipe(), 3);
        Kit.due("second wipe()", kiln.wipe(), 0);
        Kit.due("parse() of nothing", kiln.parse(), 0);
        Kit.due("kind of nothing typed", kiln.kind(0, 0), '?');
    }

    private static void faults() {
        String[] good = {"", "  ", "a+", "*b", "a*/b", "(", "|", "||", "f(", "f(,", "f(a,b,", "f(a,b,c", "f()", "S(i",
            "S(i,", "S(i,1", "S(i,,", "S(i,1,2,", "S(i,1,2,3", " S ( i ,1,2,3)", "S(i ", "a_^2", "a_!", "a^*b", "--", "=",
            "(a=b)=c", "|a=b|=c", "(a=b)<(c>d)", "f(a=b,c<d)", "S(i,a=b,c<d,e>f)", "a_-b", "x!!", "a_b!", "()", "|(x)|",
            "f(|a|)", "|f(x)|", "x_(1_2)", "(x_1)_2", "(x!)_2", "?", "f (a", "f (a)", "f x"};
        for (String signs : good) {
            Kit.due("fault of " + signs, Kit.fault(signs), -1);
        }
        Object[][] bad = {{")", 0}, {",", 0}, {"a)", 1}, {"a,b", 1}, {"a=b=c", 3}, {"a<b=c", 3}, {"(a=b=c)", 4},
            {"a=b)", 3}, {"x_1_2", 3}, {"x!_2", 2}, {"a__b", 2}, {"S", 1}, {"S  ", 3}, {"S(", 2}, {"S( ", 3}, {"Sx", 1},
            {"S x", 2}, {"S(1", 2}, {"S(i)", 3}, {"S(ij", 3}, {"S(i j", 4}, {"S(i,1)", 5}, {"S(i,1,2)", 7},
            {"S(i,1,2,3,", 9}, {"S(f(", 3}, {"f(a,b,c,", 7}, {"f (a,b)", 4}, {"(a,b)", 2}, {"|a,b|", 2}, {"|a)", 2},
            {"(|a)", 3}, {"f(|a)", 4}, {"f(|a,b|)", 4}, {"(|)", 2}, {"a)b", 1}, {"S,", 1}, {"S(?", 2}, {"a=b=", 3},
            {"x^y_1_2", 5}, {"S(i,a=b=c", 7}, {"|x_1|_2_3", 7}, {"a = b = c", 6}, {"SS(i", 1}, {"2_3_4", 3}};
        for (Object[] row : bad) {
            Kit.due("fault of " + row[0], Kit.fault((String) row[0]), row[1]);
        }
    }

    private static void parsing() {
        FormulaKiln kiln = new FormulaKiln();
        Kit.type(kiln, "a)");
        Kit.fails("parse() with a fault", UNSUPPORTED, kiln::parse);
        Kit.due("signs stay", kiln.wipe(), 2);
        for (int i = 0; i < 7; i++) {
            Kit.due("parse()", Kit.parse(kiln, "a"), i);
        }
        Kit.due("parse() wipes", kiln.wipe(), 0);
        Kit.type(kiln, "+".repeat(50));
        Kit.fails("101 nodes", STATE, kiln::parse);
        Kit.due("signs stay", kiln.wipe(), 50);
        Kit.due("99 nodes", Kit.parse(kiln, "+".repeat(49)), 7);
        Kit.due("size of 99 nodes", kiln.size(7), 99);
        Kit.type(kiln, "a");
        Kit.fails("ninth formula", STATE, kiln::parse);
        Kit.type(kiln, ")");
        Kit.fails("ninth formula with a fault", UNSUPPORTED, kiln::parse);
        Kit.due("signs stay", kiln.wipe(), 2);
    }

    private static void readingTrees() {
        String[][] rows = {{"", "?"}, {"  ", "?"}, {"a", "a"}, {"12", "12"}, {"0007", "7"}, {"12345", ".(1234 5)"},
            {"123456789", ".(.(1234 5678) 9)"}, {"12 34", ".(12 34)"}, {"a+b-c", "-(+(a b) c)"}, {"a-b+c", "+(-(a b) c)"},
            {"a*b/c", "/(*(a b) c)"}, {"ab/cd", ".(/(.(a b) c) d)"}, {"a/bc", ".(/(a b) c)"}, {"-ab", ".(~(a) b)"},
            {"-a^b", "~(^(a b))"}, {"a^-b", "^(a ~(b))"}, {"a^-b^c*d", "*(^(a ~(^(b c))) d)"}, {"a^b^c", "^(a ^(b c))"},
            {"a^b!", "^(a !(b))"}, {"a_b!", "!(_(a b))"}, {"a_b^c", "^(_(a b) c)"}, {"a!!", "!(!(a))"},
            {"-a!", "~(!(a))"}, {"a+-b", "+(a ~(b))"}, {"a--b", "-(a ~(b))"}, {"a*-b", "*(a ~(b))"}, {"--a", "~(~(a))"},
            {"f(x)", "f(x)"}, {"g(x,y)", "g(x y)"}, {"h(x,y,z)", "h(x y z)"}, {"f (x)", ".(f x)"}, {"f", "f"},
            {"f x", ".(f x)"}, {"k(x)", ".(k x)"}, {"f(x)y", ".(f(x) y)"}, {"f(x)(y)", ".(f(x) y)"},
            {"f(a=b,c+d)", "f(=(a b) +(c d))"}, {"(a+b)c", ".(+(a b) c)"}, {"((a))", "a"}, {"(a=b)+c", "+(=(a b) c)"},
            {"a_f(x)", "_(a f(x))"}, {"a_(b+c)", "_(a +(b c))"}, {"a_(b_c)", "_(a _(b c))"}, {"(a_b)_c", "_(_(a b) c)"},
            {"(a^b)!", "!(^(a b))"}, {"S(i,1,n,i)", "Si(1 n i)"}, {"S (i , 1,n,i ) x", ".(Si(1 n i) x)"},
            {"S(i", "Si(? ? ?)"}, {"S(i,", "Si(? ? ?)"}, {"S(i,1", "Si(1 ? ?)"}, {"S(i,,2", "Si(? 2 ?)"},
            {"S(i,1,2,", "Si(1 2 ?)"}, {"S(i,1,2,3", "Si(1 2 3)"}, {"S(i,1+", "Si(+(1 ?) ? ?)"},
            {"2S(i,S(j", ".(2 Si(Sj(? ? ?) ? ?))"}, {"S(f,1,2,f)", "Sf(1 2 f)"}, {"a=b", "=(a b)"}, {"a<b+c", "<(a +(b c))"},
            {"a+b>c", ">(+(a b) c)"}, {"+", "+(? ?)"}, {"*", "*(? ?)"}, {"/", "/(? ?)"}, {"^", "^(? ?)"}, {"_", "_(? ?)"},
            {"!", "!(?)"}, {"-", "~(?)"}, {"=", "=(? ?)"}, {"a+*b", "+(a *(? b))"}, {"a*/b", "/(*(a ?) b)"},
            {"a_^2", "^(_(a ?) 2)"}, {"a_!", "!(_(a ?))"}, {"a_-b", "-(_(a ?) b)"}, {"a^*b", "*(^(a ?) b)"},
            {"a_", "_(a ?)"}, {"()", "?"}, {"f()", "f(?)"}, {"f(,)", "f(? ?)"}, {"f(", "f(?)"}, {"f(a,", "f(a ?)"},
            {"f(a,b,", "f(a b ?)"}, {"(a", "a"}, {"((a+", "+(a ?)"}, {"f (", ".(f ?)"}, {"a?b", ".(.(a ?) b)"},
            {"a(b", ".(a b)"}, {"a=", "=(a ?)"}, {"2x^2", ".(2 ^(x 2))"}, {"a/b/c", "/(/(a b) c)"},
            {"-(a+b)c", ".(~(+(a b)) c)"}, {"a b", ".(a b)"}, {"a! b", ".(!(a) b)"}};
        for (String[] row : rows) {
            Kit.due("read " + row[0], Kit.read(row[0]), row[1]);
        }
    }

    private static void readingBars() {
        String[][] rows = {{"|x|", "|(x)"}, {"|", "|(?)"}, {"||", "|(|(?))"}, {"||x||", "|(|(x))"},
            {"|x|y|z", ".(.(|(x) y) |(z))"}, {"|x|y|z|", ".(.(|(x) y) |(z))"}, {"2|x|", ".(2 |(x))"},
            {"|2|x||", ".(.(|(2) x) |(|(?)))"}, {"|a+|b||", "|(+(a |(b)))"}, {"|a+|", "|(+(a |(?)))"},
            {"|a_|b||", "|(_(a |(b)))"}, {"|-|b||", "|(~(|(b)))"}, {"|a!|", "|(!(a))"}, {"|a^|b||", "|(^(a |(b)))"},
            {"|a(b|c|)|", "|(.(a .(b |(c))))"}, {"|f(a|b|)|", "|(f(.(a |(b))))"}, {"|(a|b", "|(.(a |(b)))"},
            {"|a=b|", "|(=(a b))"}, {"a|b", ".(a |(b))"}, {"|S(i,1,2,i|x|)|", "|(Si(1 2 .(i |(x))))"},
            {"||b|a|", "|(.(|(b) a))"}, {"|a|_b", "_(|(a) b)"}, {"|a|!", "!(|(a))"}, {"|a||b|", ".(|(a) |(b))"}};
        for (String[] row : rows) {
            Kit.due("read " + row[0], Kit.read(row[0]), row[1]);
        }
    }

    private static void looking() {
        FormulaKiln kiln = Kit.kiln("f(x,7)+S(k,1,2,k!)", "-a_b|c|");
        Kit.due("size(0)", kiln.size(0), 9);
        Kit.due("size(1)", kiln.size(1), 7);
        Kit.due("kinds", "" + kiln.kind(0, 0) + kiln.kind(0, 1) + kiln.kind(0, 2) + kiln.kind(0, 3) + kiln.kind(0, 4)
                + kiln.kind(0, 7), "+fvnS!");
        Kit.due("kinds", "" + kiln.kind(1, 0) + kiln.kind(1, 1) + kiln.kind(1, 2) + kiln.kind(1, 5), ".~_|");
        Kit.due("value of a number", kiln.value(0, 3), 7);
        Kit.due("value of a letter", kiln.value(0, 2), (int) 'x');
        Kit.due("value of 'S'", kiln.value(0, 4), (int) 'k');
        Kit.fails("value of '+'", NO_SUCH, () -> kiln.value(0, 0));
        Kit.fails("value of 'f'", NO_SUCH, () -> kiln.value(0, 1));
        Kit.fails("value of no node", INDEX, () -> kiln.value(0, 9));
        Kit.due("parts", kiln.parts(0, 0) + 10 * kiln.parts(0, 1) + 100 * kiln.parts(0, 2) + 1000 * kiln.parts(0, 4), 3022);
        Kit.due("part(0, 0, 0)", kiln.part(0, 0, 0), 1);
        Kit.due("part(0, 0, 1)", kiln.part(0, 0, 1), 4);
        Kit.due("part(0, 4, 2)", kiln.part(0, 4, 2), 7);
        Kit.fails("part(0, 0, 2)", INDEX, () -> kiln.part(0, 0, 2));
        Kit.fails("part(0, 0, -1)", INDEX, () -> kiln.part(0, 0, -1));
        Kit.fails("part(0, 2, 0)", INDEX, () -> kiln.part(0, 2, 0));
        for (int bad : new int[] {-1, 2, 8, Integer.MAX_VALUE, Integer.MIN_VALUE}) {
            Kit.fails("size", INDEX, () -> kiln.size(bad));
            Kit.fails("kind", INDEX, () -> kiln.kind(bad, 0));
            Kit.fails("value", INDEX, () -> kiln.value(bad, 0));
            Kit.fails("parts", INDEX, () -> kiln.parts(bad, 0));
            Kit.fails("part", INDEX, () -> kiln.part(bad, 0, 0));
            Kit.fails("length", INDEX, () -> kiln.length(bad));
            Kit.fails("sign", INDEX, () -> kiln.sign(bad, 0));
            Kit.fails("holeShare", INDEX, () -> kiln.holeShare(bad));
        }
        for (int bad : new int[] {-1, 9, 98, 99, Integer.MAX_VALUE, Integer.MIN_VALUE}) {
            Kit.fails("kind", INDEX, () -> kiln.kind(0, bad));
            Kit.fails("value", INDEX, () -> kiln.value(0, bad));
            Kit.fails("parts", INDEX, () -> kiln.parts(0, bad));
            Kit.fails("part", INDEX, () -> kiln.part(0, bad, 0));
            Kit.fails("part", INDEX, () -> kiln.part(0, 0, bad));
        }
    }

    private static void writing() {
        String[][] rows = {{"", "?"}, {"12345", "1234 5"}, {"0007", "7"}, {"1 2", "1 2"}, {"1 1", "1 1"}, {"x 2", "x2"},
            {"2 x", "2x"}, {"x^2 3", "x^2 3"}, {"2 3^x", "2 3^x"}, {"((a+b))c", "(a+b)c"}, {"f (x)", "fx"},
            {"f (x+1)", "f (x+1)"}, {"x^f (a+b)", "x^f (a+b)"}, {"f ((a+b)^2)", "f (a+b)^2"}, {"f(x)(a+b)", "f(x)(a+b)"},
            {"f*(a+b)", "f*(a+b)"}, {"k (x+1)", "k(x+1)"}, {"a(-b)", "a(-b)"}, {"f (-b)", "f (-b)"}, {"2(3)", "2 3"},
            {"2(-3)", "2(-3)"}, {"a*(-b)", "a*-b"}, {"a/(-b)", "a/-b"}, {"a+(-b)", "a+-b"}, {"(-a)b", "-ab"},
            {"-(ab)", "-(ab)"}, {"a(bc)", "a(bc)"}, {"(ab)c", "abc"}, {"a*(b*c)", "a*(b*c)"}, {"(a*b)*c", "a*b*c"},
            {"a-(b-c)", "a-(b-c)"}, {"(a-b)-c", "a-b-c"}, {"(a^b)^c", "(a^b)^c"}, {"a^(b^c)", "a^b^c"}, {"(-a)^b", "(-a)^b"},
            {"-(a^b)", "-a^b"}, {"a^(-b)", "a^-b"}, {"a^(bc)", "a^(bc)"}, {"(a!)^b", "a!^b"}, {"(a^b)!", "(a^b)!"},
            {"a^(b!)", "a^b!"}, {"(a_b)!", "a_b!"}, {"(a!)_b", "(a!)_b"}, {"(a_b)_c", "(a_b)_c"}, {"a_(b!)", "a_(b!)"},
            {"(a=b)=c", "(a=b)=c"}, {"a=(b=c)", "a=(b=c)"}, {"(a=b)+c", "(a=b)+c"}, {"(a+b)=c", "a+b=c"}, {"(-a)!", "(-a)!"},
            {"|(a=b)|", "|a=b|"}, {"f((a=b),(c))", "f(a=b,c)"}, {"S(i,(1),(a=b),(i))", "S(i,1,a=b,i)"}, {"S (i", "S(i,?,?,?)"},
            {"|x|y|z", "|x|y|z|"}, {"|a(|b|)|", "|a(|b|)|"}, {"|a(|b|^2)|", "|a(|b|^2)|"}, {"|a*|b||", "|a*|b||"},
            {"|(|a|)b|", "||a|b|"}, {"a|b|", "a|b|"}, {"|f(a|b|)|", "|f(a|b|)|"}, {"|(a|b|)|", "|a(|b|)|"},
            {"|(a|b|)c|", "|a(|b|)c|"}, {"|(a|b|+c)^2|", "|(a|b|+c)^2|"}, {"a^", "a^?"}, {"|", "|?|"}, {"()", "?"},
            {"a_(1)2", "a_1 2"}, {"12 (3/4)", "12(3/4)"}, {"1(2!)", "1 2!"}, {"1(|2|)", "1|2|"}, {"g (h)", "gh"},
            {"g (h(x))", "gh(x)"}, {"h (-h)", "h (-h)"}, {"2(f(x)^3)", "2f(x)^3"}, {"-(-a)", "--a"}, {"-(a+b)", "-(a+b)"}};
        for (String[] row : rows) {
            Kit.due("written " + row[0], Kit.rewritten(row[0]), row[1]);
        }
        FormulaKiln kiln = Kit.kiln("1 23");
        Kit.due("length", kiln.length(0), 4);
        Kit.due("sign", kiln.sign(0, 1), ' ');
        Kit.fails("sign(0, 4)", INDEX, () -> kiln.sign(0, 4));
        Kit.fails("sign(0, -1)", INDEX, () -> kiln.sign(0, -1));
    }

    private static void box(String signs, int style, int node, int width, int above, int below, int itsStyle) {
        FormulaKiln kiln = Kit.kiln(signs);
        String what = "box of " + signs + " in " + style + " at " + node + " ";
        Kit.due(what + "w", kiln.box(0, style, node, 'w'), width);
        Kit.due(what + "a", kiln.box(0, style, node, 'a'), above);
        Kit.due(what + "b", kiln.box(0, style, node, 'b'), below);
        Kit.due(what + "s", kiln.box(0, style, node, 's'), itsStyle);
    }

    private static void boxes() {
        box("x", 0, 0, 8, 8, 2, 0);
        box("x", 1, 0, 8, 8, 2, 1);
        box("x", 2, 0, 6, 6, 1, 2);
        box("?", 3, 0, 4, 4, 1, 3);
        box("123", 0, 0, 24, 8, 2, 0);
        box("1234", 3, 0, 16, 4, 1, 3);
        box("0", 0, 0, 8, 8, 2, 0);
        box("9", 0, 0, 8, 8, 2, 0);
        box("10", 0, 0, 16, 8, 2, 0);
        box("99", 0, 0, 16, 8, 2, 0);
        box("100", 0, 0, 24, 8, 2, 0);
        box("999", 0, 0, 24, 8, 2, 0);
        box("1000", 0, 0, 32, 8, 2, 0);
        box("0010", 2, 0, 12, 6, 1, 2);
        box("a+b", 0, 0, 32, 8, 2, 0);
        box("a-b", 2, 0, 18, 6, 1, 2);
        box("a=b", 1, 0, 34, 8, 2, 1);
        box("a<b", 3, 0, 12, 4, 1, 3);
        box("a*b", 0, 0, 24, 8, 2, 0);
        box("ab", 0, 0, 16, 8, 2, 0);
        box("1 2", 0, 0, 16, 8, 2, 0);
        box("-a", 0, 0, 16, 8, 2, 0);
        box("a!", 2, 0, 12, 6, 1, 2);
        box("|a|", 0, 0, 12, 9, 3, 0);
        box("|a|", 3, 0, 8, 5, 2, 3);
        box("(a+b)c", 0, 0, 48, 9, 3, 0);
        box("(a+b)c", 0, 1, 32, 8, 2, 0);
        box("f(x)", 0, 0, 24, 9, 3, 0);
        box("f(x,y)", 0, 0, 40, 9, 3, 0);
        box("g(x,y,z)", 2, 0, 44, 7, 2, 2);
        FormulaKiln kiln = Kit.kiln("a");
        Kit.fails("box of no formula", INDEX, () -> kiln.box(1, 9, 0, 'x'));
        Kit.fails("box of no node", INDEX, () -> kiln.box(0, 9, 1, 'x'));
        Kit.fails("box in the style -1", ARGUMENT, () -> kiln.box(0, -1, 0, 'w'));
        Kit.fails("box in the style 4", ARGUMENT, () -> kiln.box(0, 4, 0, 'w'));
        Kit.fails("box of 'h'", ARGUMENT, () -> kiln.box(0, 0, 0, 'h'));
    }

    private static void manySignBoxes() {
        box("a/b", 0, 0, 12, 14, 8, 0);
        box("a/b", 0, 1, 8, 8, 2, 1);
        box("a/b", 1, 0, 10, 11, 5, 1);
        box("a/b", 2, 0, 8, 9, 3, 2);
        box("a/b", 3, 0, 8, 9, 3, 3);
        box("a/b", 3, 2, 4, 4, 1, 3);
        box("a/(b+c)", 0, 0, 44, 14, 10, 0);
        box("a/b/c", 0, 1, 10, 11, 5, 1);
        box("a/b/c", 0, 0, 14, 20, 8, 0);
        box("x^2", 0, 0, 14, 11, 2, 0);
        box("x^2", 1, 2, 6, 6, 1, 2);
        box("x^2", 2, 0, 10, 8, 1, 2);
        box("x^2", 2, 2, 4, 4, 1, 3);
        box("x^2", 3, 0, 8, 7, 1, 3);
        box("x^(a/b)", 0, 0, 24, 15, 2, 0);
        box("x_2", 0, 0, 14, 8, 5, 0);
        box("x_2", 2, 0, 10, 6, 4, 2);
        box("x_2", 3, 2, 4, 4, 1, 3);
        box("S(k,0,9,k)", 0, 0, 26, 19, 13, 0);
        box("S(k,0,9,k)", 1, 0, 42, 12, 7, 1);
        box("S(k,0,9,k)", 0, 1, 6, 6, 1, 2);
        box("S(k,0,9,k)", 1, 2, 6, 6, 1, 2);
        box("S(k,0,9,k)", 2, 0, 30, 10, 7, 2);
        box("S(k,0,9,k)", 2, 1, 4, 4, 1, 3);
        box("S(k,0,9,k)", 3, 3, 4, 4, 1, 3);
        box("S(k,0,9,k)", 3, 0, 24, 10, 7, 3);
        box("S(k,0,12345,k)", 0, 0, 38, 19, 13, 0);
        box("S(k,0,a/b,k)", 1, 0, 42, 15, 7, 1);
        box("S(k,a/b,0,k)", 0, 0, 28, 19, 18, 0);
        box("S(k,a/b/c/d,0,k)", 1, 0, 52, 17, 9, 1);
        box("S(k,0,a/(b/(c/d)),k)", 1, 0, 56, 15, 15, 1);
        box("(a/b)^2", 0, 0, 26, 15, 9, 0);
        box("(a/b)^2", 0, 1, 12, 14, 8, 0);
        box("(a/b)_2", 0, 0, 26, 15, 12, 0);
        box("a^(b+c)^2", 0, 0, 38, 13, 2, 0);
    }

    private static void lines() {
        FormulaKiln kiln = Kit.kiln("a+b-c+d", "a+b=c-d", "aaaaaaaaa", "aaaaaaaaa+b+c", "(a+b)(c+d)", "(a=b)+c", "a-(b+c)");
        // Pieces are 8, 24, 24 and 24 wide.
        Kit.due("width 32", kiln.lines(0, 32), 3);
        Kit.due("width 40", kiln.lines(0, 40), 3);
        Kit.due("width 56", kiln.lines(0, 56), 2);
        Kit.due("width 79", kiln.lines(0, 79), 2);
        Kit.due("width 80", kiln.lines(0, 80), 1);
        Kit.due("width 9999", kiln.lines(0, 9999), 1);
        // Pieces are 8, 24, 26 and 24 wide.
        Kit.due("relation at 82", kiln.lines(1, 82), 1);
        Kit.due("relation at 81", kiln.lines(1, 81), 2);
        Kit.due("relation at 41", kiln.lines(1, 41), 3);
        Kit.due("relation at 32", kiln.lines(1, 32), 3);
        Kit.due("one piece too wide", kiln.lines(2, 32), 1);
        // Pieces are 72, 24 and 24 wide; behind the first line 16 less is there.
        Kit.due("first piece too wide", kiln.lines(3, 64), 2);
        Kit.due("first piece too wide", kiln.lines(3, 63), 3);
        Kit.due("product of sums", kiln.lines(4, 32), 1);
        // Pieces are 42 and 24 wide.
        Kit.due("relation in brackets", kiln.lines(5, 66), 1);
        Kit.due("relation in brackets", kiln.lines(5, 65), 2);
        // Pieces are 8 and 56 wide.
        Kit.due("sum in brackets", kiln.lines(6, 64), 1);
        Kit.due("sum in brackets", kiln.lines(6, 63), 2);
        Kit.fails("lines at 31", ARGUMENT, () -> kiln.lines(0, 31));
        Kit.fails("lines at 10000", ARGUMENT, () -> kiln.lines(0, 10000));
        Kit.fails("lines of no formula", INDEX, () -> kiln.lines(7, 31));
    }

    private static void caretAndMoves() {
        FormulaKiln kiln = Kit.kiln("f(a,b+c,d)", "x");
        Kit.due("caret(0, 0)", kiln.caret(0, 0), 6);
        Kit.fails("up from the root", NO_SUCH, () -> kiln.move('u'));
        Kit.fails("left from the root", NO_SUCH, () -> kiln.move('l'));
        Kit.fails("right from the root", NO_SUCH, () -> kiln.move('r'));
        Kit.due("down", kiln.move('d'), 1);
        Kit.fails("down from a letter", NO_SUCH, () -> kiln.move('d'));
        Kit.fails("left from the first part", NO_SUCH, () -> kiln.move('l'));
        Kit.due("right", kiln.move('r'), 2);
        Kit.due("right", kiln.move('r'), 5);
        Kit.fails("right from the last part", NO_SUCH, () -> kiln.move('r'));
        Kit.due("left", kiln.move('l'), 2);
        Kit.due("left to the first part", kiln.move('l'), 1);
        Kit.due("right", kiln.move('r'), 2);
        Kit.due("down", kiln.move('d'), 3);
        Kit.due("up", kiln.move('u'), 2);
        Kit.due("up", kiln.move('u'), 0);
        Kit.fails("no such way", ARGUMENT, () -> kiln.move('x'));
        Kit.due("caret(0, 2)", kiln.caret(0, 2), 3);
        Kit.fails("caret at no formula", INDEX, () -> kiln.caret(2, 0));
        Kit.fails("caret at no node", INDEX, () -> kiln.caret(1, 1));
        Kit.fails("caret at -1", INDEX, () -> kiln.caret(0, -1));
        Kit.due("caret stays where it was", kiln.move('d'), 3);
        Kit.fails("no such way with no caret", ARGUMENT, () -> new FormulaKiln().move('x'));
        FormulaKiln single = Kit.kiln("-a");
        single.caret(0, 0);
        Kit.due("down to a single part", single.move('d'), 1);
    }

    private static void putting() {
        FormulaKiln kiln = Kit.kiln("a*b", "c");
        kiln.caret(0, 2);
        Kit.type(kiln, "x=y");
        Kit.due("put()", kiln.put(), 5);
        Kit.due("put in", Kit.text(kiln, 0), "a*(x=y)");
        Kit.due("put() wipes", kiln.wipe(), 0);
        Kit.due("the caret stays", kiln.move('d'), 3);
        Kit.due("put() of nothing", kiln.put(), 5);
        Kit.due("put in nothing", Kit.text(kiln, 0), "a*(?=y)");
        Kit.type(kiln, "a)");
        Kit.fails("put() with a fault", UNSUPPORTED, kiln::put);
        Kit.due("signs stay", kiln.wipe(), 2);
        Kit.type(kiln, "+".repeat(47));
        Kit.due("put() of 95", kiln.put(), 99);
        kiln.caret(0, 1);
        Kit.type(kiln, "-z");
        Kit.fails("put() of 100", UNSUPPORTED, kiln::put);
        Kit.due("signs stay", kiln.wipe(), 2);
        kiln.caret(0, 0);
        Kit.type(kiln, "+".repeat(50));
        Kit.fails("put() of 101", UNSUPPORTED, kiln::put);
        kiln.wipe();
        Kit.type(kiln, "k");
        Kit.due("put() at the root", kiln.put(), 1);
        Kit.due("the other formula", Kit.text(kiln, 1), "c");
        FormulaKiln nowhere = Kit.kiln("a");
        Kit.type(nowhere, ")");
        Kit.fails("put() nowhere with a fault", NO_SUCH, nowhere::put);
    }

    private static void taking() {
        FormulaKiln kiln = Kit.kiln("a+b*c");
        kiln.caret(0, 2);
        Kit.due("take()", kiln.take(), 2);
        Kit.due("taken", Kit.text(kiln, 0), "a+?");
        Kit.due("take() of a hole", kiln.take(), 0);
        Kit.due("undo of a hole taken", kiln.undo(), 0);
        Kit.due("taken", Kit.text(kiln, 0), "a+?");
        Kit.fails("take() behind undo()", NO_SUCH, kiln::take);
        kiln.undo();
        Kit.due("undone", Kit.text(kiln, 0), "a+b*c");
        Kit.fails("nothing to undo", NO_SUCH, kiln::undo);
    }

    private static void undoing() {
        FormulaKiln kiln = Kit.kiln("a", "b");
        for (int i = 0; i < 12; i++) {
            kiln.caret(i % 2, 0);
            Kit.type(kiln, "" + i);
            kiln.put();
        }
        for (int i = 11; i >= 2; i--) {
            Kit.due("undo()", kiln.undo(), i % 2);
            Kit.due("undone", Kit.text(kiln, i % 2), "" + (i - 2));
            Kit.fails("caret behind undo()", NO_SUCH, kiln::take);
        }
        Kit.fails("eleventh undo()", NO_SUCH, kiln::undo);
        Kit.due("the oldest edits stay", Kit.text(kiln, 0) + Kit.text(kiln, 1), "01");
        FormulaKiln names = Kit.kiln("S(i,1,2,ix)+0", "y");
        names.rename(0, 1, 'i');
        names.set(0, 'z', 1);
        Kit.fails("no edit yet", NO_SUCH, names::undo);
        names.rename(0, 1, 'k');
        names.set(0, 'x', 1);
        names.step(0, 'z');
        Kit.due("all edits", Kit.text(names, 0), "S(k,1,2,ky)");
        names.undo();
        Kit.due("step undone", Kit.text(names, 0), "S(k,1,2,ky)+0");
        names.undo();
        Kit.due("set undone", Kit.text(names, 0), "S(k,1,2,kx)+0");
        names.undo();
        Kit.due("rename undone", Kit.text(names, 0), "S(i,1,2,ix)+0");
        names.set(0, 'x', 0);
        names.undo();
        Kit.due("undo behind undo", Kit.text(names, 0), "S(i,1,2,ix)+0");
        FormulaKiln gone = Kit.kiln("a+0");
        gone.caret(0, 2);
        gone.step(0, 'z');
        Kit.fails("the caret's node is gone", NO_SUCH, gone::take);
        FormulaKiln grown = Kit.kiln("a+0", "b+c");
        grown.caret(0, 1);
        grown.step(0, 'z');
        grown.set(0, 'a', 1);
        Kit.fails("nowhere, though the number is there again", NO_SUCH, grown::take);
        FormulaKiln same = Kit.kiln("0+a");
        same.caret(0, 0);
        same.step(0, 'z');
        Kit.due("the caret stays at its number", same.take(), 0);
        FormulaKiln others = Kit.kiln("a+0", "b+0");
        others.caret(1, 2);
        others.step(0, 'z');
        Kit.due("another formula's caret stays", others.move('u'), 0);
    }

    private static void binders() {
        FormulaKiln kiln = Kit.kiln("S(i,i,i,i+S(i,i,j,i*j))");
        // Nodes: 0 S, 1 i, 2 i, 3 +, 4 i, 5 S, 6 i, 7 j, 8 *, 9 i, 10 j.
        int[] due = {-1, -1, 0, 0, -1, 5, -1};
        int[] node = {1, 2, 4, 6, 7, 9, 10};
        for (int k = 0; k < due.length; k++) {
            Kit.due("binder of " + node[k], kiln.binder(0, node[k]), due[k]);
        }
        Kit.fails("binder of 'S'", UNSUPPORTED, () -> kiln.binder(0, 0));
        Kit.fails("binder of '+'", UNSUPPORTED, () -> kiln.binder(0, 3));
        Kit.fails("binder of no node", INDEX, () -> kiln.binder(0, 11));
        Kit.fails("binder of no formula", INDEX, () -> kiln.binder(1, 0));
    }

    private static void freeLetters() {
        FormulaKiln kiln = Kit.kiln("i+S(i,i,k,i*j)+f(f)");
        Kit.due("free i", kiln.free(0, 'i'), 2);
        Kit.due("free j", kiln.free(0, 'j'), 1);
        Kit.due("free f", kiln.free(0, 'f'), 1);
        Kit.due("free z", kiln.free(0, 'z'), 0);
        Kit.fails("free of 'A'", ARGUMENT, () -> kiln.free(0, 'A'));
        Kit.fails("free of '`'", ARGUMENT, () -> kiln.free(0, '`'));
        Kit.fails("free of '{'", ARGUMENT, () -> kiln.free(0, '{'));
        Kit.fails("free of no formula", INDEX, () -> kiln.free(1, 'A'));
    }

    private static void renaming() {
        FormulaKiln kiln = Kit.kiln("S(i,i,1,i+S(j,i,2,i*j*k))", "S(i,1,2,S(j,1,2,j)+i)", "S(i,1,2,5)", "S(i,1,2,S(k,i,2,k))");
        Kit.due("to its own letter", kiln.rename(0, 0, 'i'), 0);
        Kit.fails("to a letter that is free", UNSUPPORTED, () -> kiln.rename(0, 0, 'k'));
        Kit.fails("captured by an inner one", UNSUPPORTED, () -> kiln.rename(0, 0, 'j'));
        Kit.fails("to an outer letter that is free within", UNSUPPORTED, () -> kiln.rename(0, 5, 'i'));
        Kit.fails("no 'S'", UNSUPPORTED, () -> kiln.rename(0, 1, 'z'));
        Kit.fails("no letter", ARGUMENT, () -> kiln.rename(0, 1, 'Z'));
        Kit.fails("no node", INDEX, () -> kiln.rename(0, 99, 'Z'));
        Kit.due("rename", kiln.rename(0, 0, 'z'), 3);
        Kit.due("renamed", Kit.text(kiln, 0), "S(z,i,1,z+S(j,z,2,z*j*k))");
        Kit.due("inner of that letter holds nothing", kiln.rename(1, 0, 'j'), 1);
        Kit.due("renamed", Kit.text(kiln, 1), "S(j,1,2,S(j,1,2,j)+j)");
        Kit.due("none bound", kiln.rename(2, 0, 'x'), 0);
        Kit.due("an edit all the same", Kit.text(kiln, 2), "S(x,1,2,5)");
        Kit.due("undone", kiln.undo(), 2);
        Kit.due("only from and to of an inner one", kiln.rename(3, 0, 'k'), 1);
        Kit.due("renamed", Kit.text(kiln, 3), "S(k,1,2,S(k,k,2,k))");
    }

    private static void setting() {
        FormulaKiln kiln = Kit.kiln("x+S(x,x,2,x)", "a+b", "S(a,x,1,S(b,a,x,abx))");
        Kit.due("set none", kiln.set(0, 'y', 1), 0);
        Kit.due("set", kiln.set(0, 'x', 1), 2);
        Kit.due("bound ones stay", Kit.text(kiln, 0), "a+b+S(x,a+b,2,x)");
        Kit.due("set with renaming", kiln.set(2, 'x', 1), 3);
        Kit.due("outer ones first", Kit.text(kiln, 2), "S(c,a+b,1,S(d,c,a+b,cd(a+b)))");
        Kit.due("set by itself", kiln.set(1, 'a', 1), 1);
        Kit.due("by itself", Kit.text(kiln, 1), "a+b+b");
        Kit.fails("no formula", INDEX, () -> kiln.set(3, 'A', 0));
        Kit.fails("no other formula", INDEX, () -> kiln.set(0, 'A', 3));
        Kit.fails("no letter", ARGUMENT, () -> kiln.set(0, 'A', 0));
        FormulaKiln apart = Kit.kiln("S(a,x,1,a)+S(a,1,x,a)+S(a,1,2,x)", "a");
        apart.set(0, 'x', 1);
        Kit.due("only where a last part holds one", Kit.text(apart, 0), "S(a,a,1,a)+S(a,1,a,a)+S(b,1,2,a)");
        FormulaKiln again = Kit.kiln("S(a,1,2,S(a,1,2,ax))", "a");
        again.set(0, 'x', 1);
        Kit.due("each with a letter of its own", Kit.text(again, 0), "S(b,1,2,S(c,1,2,ca))");
        FormulaKiln freed = Kit.kiln("S(b,1,2,x)+S(a,1,2,ax)", "b+a");
        freed.set(0, 'x', 1);
        Kit.due("letters are looked for by then", Kit.text(freed, 0), "S(c,1,2,b+a)+S(d,1,2,d(b+a))");
        FormulaKiln own = Kit.kiln("x+S(a,1,2,ax)+a");
        own.set(0, 'x', 0);
        Kit.due("a formula into itself", Kit.text(own, 0), "x+S(a,1,2,ax)+a+S(b,1,2,b(x+S(a,1,2,ax)+a))+a");
    }

    private static void settingEdges() {
        FormulaKiln large = Kit.kiln("x".repeat(5), "+".repeat(9), "+".repeat(10));
        String ahead = Kit.state(large);
        Kit.fails("5 * 21 + 4 nodes", UNSUPPORTED, () -> large.set(0, 'x', 2));
        Kit.due("nothing has changed", Kit.state(large), ahead);
        Kit.due("5 * 19 + 4 nodes", large.set(0, 'x', 1), 5);
        Kit.due("99 nodes", large.size(0), 99);
        FormulaKiln full = Kit.kiln("S(a,1,2,xbcdefghijklmnopqrstuvwyz)", "a");
        String state = Kit.state(full);
        Kit.fails("no letter is left", UNSUPPORTED, () -> full.set(0, 'x', 1));
        Kit.due("nothing has changed", Kit.state(full), state);
        FormulaKiln last = Kit.kiln("S(a,1,2,xbcdefghijklmnopqrstuvwy)", "a");
        Kit.due("the last letter", last.set(0, 'x', 1), 1);
        Kit.due("the last letter", last.value(0, 0), (int) 'z');
        FormulaKiln applied = Kit.kiln("S(a,1,2,xbcde+f(1))", "a");
        applied.set(0, 'x', 1);
        Kit.due("an applied letter is somewhere", applied.value(0, 0), (int) 'g');
        FormulaKiln number = Kit.kiln("S(a,1,2,x)+98", "a+99");
        number.set(0, 'x', 1);
        Kit.due("a number is no letter", number.value(0, 1), (int) 'b');
        FormulaKiln edit = Kit.kiln("x", "x");
        Kit.due("the same put in", edit.set(0, 'x', 1), 1);
        Kit.due("is an edit, too", edit.undo(), 0);
    }

    private static void alike() {
        Object[][] rows = {{"a+b", "a+b", true}, {"a+b", "b+a", false}, {"S(i,1,n,i)", "S(j,1,n,j)", true},
            {"S(i,i,n,i)", "S(j,i,n,j)", true}, {"S(i,i,n,i)", "S(j,j,n,j)", false}, {"S(i,1,2,j)", "S(j,1,2,j)", false},
            {"S(i,1,2,S(j,1,2,ij))", "S(j,1,2,S(i,1,2,ji))", true}, {"S(i,1,2,S(j,1,2,ij))", "S(i,1,2,S(j,1,2,ji))", false},
            {"S(i,1,2,S(i,1,2,i))", "S(i,1,2,S(j,1,2,j))", true}, {"S(i,1,2,S(i,1,2,i))", "S(i,1,2,S(j,1,2,i))", false},
            {"ab", "a*b", false}, {"f(a)", "g(a)", false}, {"f(a)", "f(a,b)", false}, {"f(a)", "f a", false}, {"7", "8", false},
            {"7", "007", true}, {"?", "", true}, {"S(i,1,2,x)", "S(j,1,2,x)", true}, {"a", "a!", false}};
        for (Object[] row : rows) {
            FormulaKiln kiln = Kit.kiln((String) row[0], (String) row[1]);
            Kit.due(row[0] + " alike " + row[1], kiln.areAlike(0, 1), row[2]);
            Kit.due(row[1] + " alike " + row[0], kiln.areAlike(1, 0), row[2]);
            Kit.due("alike itself", kiln.areAlike(0, 0), true);
        }
        FormulaKiln kiln = Kit.kiln("a");
        Kit.fails("no formula", INDEX, () -> kiln.areAlike(1, 0));
        Kit.fails("no other formula", INDEX, () -> kiln.areAlike(0, 1));
    }

    private static void found() {
        Object[][] rows = {{"a+a*a", "a", 3}, {"a+b+a", "a+b", 1}, {"S(i,1,2,i)+i", "i", 2}, {"S(i,1,2,i)+S(j,1,2,j)", "S(k,1,2,k)", 2},
            {"S(i,1,2,S(j,1,i,ij))", "S(k,1,i,ik)", 1}, {"S(i,1,2,S(j,1,i,ij))", "S(k,1,x,xk)", 0}, {"f(f(f(a)))", "f(a)", 1},
            {"7+7+77", "7", 2}, {"a", "a+a", 0}, {"?+", "", 2}, {"S(i,1,2,S(j,i,j,S(i,1,2,ij)))", "S(k,1,2,kj)", 1}};
        for (Object[] row : rows) {
            Kit.due("found " + row[1] + " in " + row[0], Kit.kiln((String) row[0], (String) row[1]).found(0, 1), row[2]);
        }
        FormulaKiln kiln = Kit.kiln("a");
        Kit.fails("no formula", INDEX, () -> kiln.found(1, 0));
        Kit.fails("no other formula", INDEX, () -> kiln.found(0, -1));
    }

    private static void unlike() {
        Object[][] rows = {{"a", 1}, {"a+a", 2}, {"a+b", 3}, {"S(i,1,1,i)+S(j,1,1,j)", 6}, {"S(i,1,1,i)+S(i,1,1,i)", 4},
            {"aa+aa", 3}, {"f(a)+f(a,a)+f(a)", 5}, {"a*b+ab", 5}, {"(a+b)(a+b)", 4}, {"--a", 3}, {"1+97+a", 5}, {"f+f(f)", 3}};
        for (Object[] row : rows) {
            Kit.due("unlike of " + row[0], Kit.kiln((String) row[0]).unlike(0), row[1]);
        }
        Kit.fails("no formula", INDEX, () -> new FormulaKiln().unlike(0));
    }

    private static void step(String signs, char rule, int node, String due) {
        FormulaKiln kiln = Kit.kiln(signs);
        if (node < 0) {
            Kit.fails(rule + " in " + signs, NO_SUCH, () -> kiln.step(0, rule));
            Kit.fails("no edit", NO_SUCH, kiln::undo);
        } else {
            Kit.due(rule + " in " + signs, kiln.step(0, rule), node);
            Kit.due(rule + " in " + signs, Kit.text(kiln, 0), due);
        }
    }

    private static void steps() {
        step("0+a", 'z', 0, "a");
        step("a+0", 'z', 0, "a");
        step("a-0", 'z', 0, "a");
        step("0-a", 'z', -1, "");
        step("0+0", 'z', 0, "0");
        step("a+00", 'z', 0, "a");
        step("b*(a+0)+0", 'z', 0, "b*(a+0)");
        step("b*(a+0)", 'z', 2, "b*a");
        step("a*0", 'z', -1, "");
        step("a*1", 'o', 0, "a");
        step("1a", 'o', 0, "a");
        step("1*1", 'o', 0, "1");
        step("a/1", 'o', 0, "a");
        step("1/a", 'o', -1, "");
        step("a^1", 'o', 0, "a");
        step("1^a", 'o', -1, "");
        step("a_1", 'o', -1, "");
        step("a+1", 'o', -1, "");
        step("f(1(a+b))", 'o', 1, "f(a+b)");
        step("--a", 'n', 0, "a");
        step("---a", 'n', 0, "-a");
        step("-(a--b)", 'n', -1, "");
        step("a--(-b)", 'n', 2, "a-b");
        step("2+3", 'c', 0, "5");
        step("3-3", 'c', 0, "0");
        step("2-3", 'c', -1, "");
        step("2*3", 'c', 0, "6");
        step("2 3", 'c', 0, "6");
        step("6/3", 'c', -1, "");
        step("2^3", 'c', -1, "");
        step("9999+1", 'c', -1, "");
        step("9998+1", 'c', 0, "9999");
        step("101*99", 'c', 0, "9999");
        step("100*100", 'c', -1, "");
        step("9999*9999+(1-2)+(1+2)", 'c', 8, "9999*9999+(1-2)+3");
        step("-2+3", 'c', -1, "");
        FormulaKiln kiln = Kit.kiln("a");
        Kit.fails("no formula", INDEX, () -> kiln.step(1, 'q'));
        Kit.fails("no such rule", ARGUMENT, () -> kiln.step(0, 'q'));
    }

    private static void spreading() {
        step("a*(b+c)", 'd', 0, "a*b+a*c");
        step("a(b-c)", 'd', 0, "ab-ac");
        step("(a-b)*c", 'd', 0, "a*c-b*c");
        step("(a+b)(c-d)", 'd', 0, "(a+b)c-(a+b)d");
        step("a/(b+c)", 'd', -1, "");
        step("(a+b)/c", 'd', -1, "");
        step("(a+b)^c", 'd', -1, "");
        step("a+b(c+d)", 'd', 2, "a+(bc+bd)");
        step("(a+b)c*(d+e)", 'd', 0, "(a+b)c*d+(a+b)c*e");
        step("(a+b)c*d", 'd', 1, "(ac+bc)*d");
        step("a(b=c)", 'd', -1, "");
        FormulaKiln full = Kit.kiln("(" + "+".repeat(24) + ")(" + "+".repeat(24) + ")");
        Kit.due("size ahead", full.size(0), 99);
        String state = Kit.state(full);
        Kit.fails("too many nodes", UNSUPPORTED, () -> full.step(0, 'd'));
        Kit.due("nothing has changed", Kit.state(full), state);
        Kit.fails("no edit", NO_SUCH, full::undo);
    }

    private static void speaking() {
        FormulaKiln kiln = Kit.kiln("a=b+c-d*e/f^g_h!", "-|x|y<z", "u>v", "S(z,0,?,9999)", "f(g(a),h(b,c,d))");
        Kit.due("words", Kit.spoken(kiln, 0), "11 100 2 1 101 102 5 3 103 104 6 105 8 7 106 107");
        Kit.due("words", Kit.spoken(kiln, 1), "12 4 9 10 123 124 125");
        Kit.due("words", Kit.spoken(kiln, 2), "13 120 121");
        Kit.due("words", Kit.spoken(kiln, 3), "15 125 1000 14 10999");
        Kit.due("words", Kit.spoken(kiln, 4), "16 17 100 19 18 101 102 103 19");
        Kit.due("words", kiln.words(4, false), 9);
        Kit.due("words in short", kiln.words(4, true), 8);
        Kit.due("words in short", kiln.words(3, true), 5);
        Kit.due("19 in short", Kit.kiln("f(f(f(a,b)))").words(0, true), 5);
        Kit.due("19 not in short", Kit.kiln("f(f(f(a,b)))").words(0, false), 8);
        Kit.due("19 that is not at the end", Kit.kiln("f(a)+b").words(0, true), 5);
        Kit.fails("word 9", INDEX, () -> kiln.word(4, 9));
        Kit.fails("word -1", INDEX, () -> kiln.word(4, -1));
        Kit.due("word 8, not in short", kiln.word(4, 8), 19);
        Kit.fails("words of no formula", INDEX, () -> kiln.words(5, true));
        Kit.fails("word of no formula", INDEX, () -> kiln.word(5, 0));
    }

    private static void saying() {
        FormulaKiln kiln = new FormulaKiln();
        int count = 0;
        for (int word : new int[] {1, 19, 100, 125, 1000, 10999}) {
            count++;
            Kit.due("say(" + word + ")", kiln.say(word), count);
        }
        for (int word : new int[] {0, -1, 20, 99, 126, 999, 11000, Integer.MIN_VALUE, Integer.MAX_VALUE}) {
            Kit.fails("say(" + word + ")", ARGUMENT, () -> kiln.say(word));
        }
        for (int k = count + 1; k <= 150; k++) {
            Kit.due("say", kiln.say(14), k);
        }
        Kit.fails("151st word", STATE, () -> kiln.say(14));
        Kit.fails("151st word that is none", ARGUMENT, () -> kiln.say(20));
        Kit.due("hush()", kiln.hush(), 150);
        Kit.due("second hush()", kiln.hush(), 0);
    }

    private static void hearing() {
        Kit.due("heard", Kit.heard(1, 100, 1007), "a+7");
        Kit.due("heard", Kit.heard(15, 105, 1001, 113, 4, 105, 14), "S(f,1,n,f?)");
        Kit.due("heard", Kit.heard(16, 100, 19), "f(a)");
        Kit.due("heard in short", Kit.heard(16, 100), "f(a)");
        Kit.due("heard in short", Kit.heard(16, 17, 100, 101), "f(g(a,b))");
        Kit.due("heard", Kit.heard(16, 17, 100, 19, 101), "f(g(a),b)");
        Kit.due("heard", Kit.heard(16, 17, 100, 101, 102, 103), "f(g(a,b,c),d)");
        Kit.due("heard", Kit.heard(2, 16, 100, 101, 102, 9, 8, 14), "f(a,b,c)--?!");
        int[][] wrong = {{}, {1}, {1, 100}, {100, 100}, {19}, {100, 19}, {16}, {16, 19}, {16, 100, 19, 19}, {15}, {15, 100},
            {15, 1, 3}, {15, 1000, 14, 14, 14}, {15, 100, 14, 14}, {16, 100, 101, 102, 19}, {16, 100, 101, 102, 103},
            {1, 16, 100}, {1, 16, 100, 19}, {1, 19, 100, 101}, {16, 19, 100, 19}, {9, 19, 100}, {16, 1, 100, 19}, {10, 19}, {16, 15}, {15, 19}, {16, 100, 15}};
        for (int[] words : wrong) {
            FormulaKiln kiln = new FormulaKiln();
            Kit.say(kiln, words);
            Kit.fails("hear() of " + words.length + " words", UNSUPPORTED, kiln::hear);
            Kit.due("words stay", kiln.hush(), words.length);
        }
        FormulaKiln kiln = new FormulaKiln();
        for (int k = 0; k < 7; k++) {
            kiln.say(14);
            Kit.due("hear()", kiln.hear(), k);
        }
        Kit.due("hear() lets go", kiln.hush(), 0);
        for (int k = 0; k < 99; k++) {
            kiln.say(9);
        }
        kiln.say(14);
        Kit.fails("100 nodes", STATE, kiln::hear);
        Kit.due("words stay", kiln.hush(), 100);
        for (int k = 0; k < 98; k++) {
            kiln.say(16);
        }
        kiln.say(14);
        Kit.due("99 nodes", kiln.hear(), 7);
        Kit.due("size", kiln.size(7), 99);
        Kit.due("words", kiln.words(7, false), 197);
        Kit.due("words in short", kiln.words(7, true), 99);
        kiln.say(14);
        Kit.fails("ninth formula", STATE, kiln::hear);
        kiln.say(14);
        Kit.fails("ninth formula that is none", UNSUPPORTED, kiln::hear);
        Kit.due("isTrue() with 197 words", kiln.isTrue(), true);
    }

    private static void shares() {
        FormulaKiln kiln = Kit.kiln("a+", "a", "");
        Kit.due("a third", kiln.holeShare(0), 1.0f / 3.0f);
        Kit.due("none", kiln.holeShare(1), 0.0f);
        Kit.due("all", kiln.holeShare(2), 1.0f);
        Kit.due("meanSize()", kiln.meanSize(), 5.0 / 3.0);
        Kit.fails("no formula", INDEX, () -> kiln.holeShare(3));
    }

    private static void checksum() {
        FormulaKiln kiln = Kit.kiln("a+7");
        long due = 7;
        for (long add : new long[] {'+', 0, 'v', 'a', 'n', 7}) {
            due = 31 * due + add;
        }
        Kit.due("checksum()", kiln.checksum(), due);
        Kit.parse(kiln, "S(k,?,?,?");
        for (long add : new long[] {'S', 'k', '?', 0, '?', 0, '?', 0}) {
            due = 31 * due + add;
        }
        Kit.due("checksum()", kiln.checksum(), due);
    }

    private static void truth() {
        FormulaKiln kiln = Kit.kiln("S(i,1,n,i^2)=|a|b|c|", "12345f (x+1)(-y)", "((a=b)_2)!", "-".repeat(60));
        Kit.say(kiln, 10, 4, 100, 6, 10, 101, 14);
        kiln.hear();
        Kit.say(kiln, 7, 7, 7, 9, 100, 9, 101, 9, 102, 9, 103);
        kiln.hear();
        Kit.due("written", Kit.text(kiln, 4), "|a(|b|^?)|");
        Kit.due("written", Kit.text(kiln, 5), "(((-a)_(-b))_(-c))_(-d)");
        Kit.due("isTrue()", kiln.isTrue(), true);
    }
}
