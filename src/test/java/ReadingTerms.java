/** The paragraphs "Signs", "Reading" and "Trees". */
final class ReadingTerms {
    private static final String SIGNS = "0123456789abcdefghijklmnopqrstuvwxyz+-*/^_!()|=<>,?S ";

    private ReadingTerms() {
    }

    static void test(Sentences sentences) {
        signs(sentences);
        blanks(sentences);
        relationsAndSums(sentences);
        productsAndFactors(sentences);
        powersAndBodies(sentences);
        numbersAndLetters(sentences);
        otherAtoms(sentences);
        goingOn(sentences);
        bars(sentences);
        missing(sentences);
        sumsThatAreOpen(sentences);
        faults(sentences);
        trees(sentences);
        kinds(sentences);
    }

    private static void reads(String... pairs) {
        for (int k = 0; k < pairs.length; k += 2) {
            FormulaKiln kiln = Kit.kiln(pairs[k]);
            Kit.due("reading \"" + pairs[k] + "\"", Kit.tree(kiln, 0), pairs[k + 1]);
            Kit.sound(kiln, 1);
        }
    }

    private static void faultAt(int place, String... rows) {
        for (String signs : rows) {
            FormulaKiln kiln = new FormulaKiln();
            Kit.type(kiln, signs);
            Kit.due("fault of \"" + signs + "\"", kiln.fault(), place);
            kiln.wipe();
            Kit.due("reading behind \"" + signs + "\"", Kit.tree(kiln, Kit.parse(kiln, "a+b")), "+(a b)");
        }
    }

    private static void signs(Sentences sentences) {
        sentences.says("Signs", "Signs are typed, at most 60");
        FormulaKiln kiln = new FormulaKiln();
        int known = 0;
        for (int code = 0; code <= Character.MAX_VALUE; code++) {
            if (code % 400 == 0) {
                kiln = new FormulaKiln();
                known = 0;
            }
            FormulaKiln typing = kiln;
            char sign = (char) code;
            if (SIGNS.indexOf(sign) >= 0) {
                known++;
                Kit.due("type of '" + sign + "'", typing.type(sign), known);
            } else {
                Kit.fails("type of the sign " + code, IllegalArgumentException.class, () -> typing.type(sign));
            }
        }
        FormulaKiln full = new FormulaKiln();
        for (int k = 1; k <= 60; k++) {
            Kit.due("sign " + k, full.type(SIGNS.charAt(k % SIGNS.length())), k);
        }
        Kit.fails("sign 61", IllegalStateException.class, () -> full.type('a'));
        Kit.fails("sign 61, once more", IllegalStateException.class, () -> full.type('a'));
        Kit.due("60 are typed", full.wipe(), 60);
        FormulaKiln blank = new FormulaKiln();
        Kit.type(blank, " ".repeat(60));
        Kit.fails("a sign behind 60 blanks", IllegalStateException.class, () -> blank.type('a'));
        Kit.fails("a blank behind 60 blanks", IllegalStateException.class, () -> blank.type(' '));
        Kit.due("60 blanks are signs", blank.wipe(), 60);
    }

    private static void blanks(Sentences sentences) {
        sentences.says("Signs", "Blanks are nothing");
        reads(" a + b ", "+(a b)", "  (  a  )  ", "a", " | a | ", "|(a)", "a ^ 2", "^(a 2)", "a _ 2 ! !", "!(!(_(a 2)))",
                "f( a , b )", "f(a b)", " - a", "~(a)", "- - a", "~(~(a))", "a < b", "<(a b)", "a / b", "/(a b)",
                "a * b", "*(a b)", "? ?", ".(? ?)", " ", "?", "a + ", "+(a ?)", "a -b", "-(a b)");
        reads("S (i,1,2,i)", "Si(1 2 i)", "S  (  i  ,  1  ,  2  ,  i  )  ", "Si(1 2 i)", "S( i,1,2,i)", "Si(1 2 i)",
                "S(i ,1,2,i)", "Si(1 2 i)", "S(i, 1,2,i)", "Si(1 2 i)", "S(i ", "Si(? ? ?)", "S(i , ", "Si(? ? ?)");
        // They part numbers, and a letter from what is behind it.
        reads("1 2", ".(1 2)", "12 3", ".(12 3)", "1234 5", ".(1234 5)", "12345 6", ".(.(1234 5) 6)", "1  2", ".(1 2)",
                "1 +2", "+(1 2)", "12", "12", "0 0", ".(0 0)");
        reads("f (a)", ".(f a)", "g  (a)", ".(g a)", "h (a+b)c", ".(.(h +(a b)) c)", "f(a)", "f(a)", "f (", ".(f ?)",
                "a b", ".(a b)", "a (b)", ".(a b)", "f f(a)", ".(f f(a))", "f f (a)", ".(.(f f) a)");
        faultAt(4, "g (a,b)");
        faultAt(2, "f )");
        faultAt(6, "a = b = c");
        faultAt(3, "   )");
    }

    private static void relationsAndSums(Sentences sentences) {
        sentences.says("Reading", "A relation is a sum");
        reads("a=b", "=(a b)", "a<b", "<(a b)", "a>b", ">(a b)", "a", "a", "a+b=c-d", "=(+(a b) -(c d))", "a=-b", "=(a ~(b))",
                "(a=b)=c", "=(=(a b) c)", "a=(b<c)", "=(a <(b c))", "(a=b)<(c>d)", "<(=(a b) >(c d))");
        faultAt(3, "a=b=c", "a=b<c", "a<b>c", "a>b=");
        faultAt(4, "(a=b=c)", "|a=b=c|", "a=bc=d");
        faultAt(5, "f(a=b=c)");
        faultAt(9, "S(i,1,a=b=c)");
        sentences.says("Reading", "A sum is products");
        reads("a+b", "+(a b)", "a-b", "-(a b)", "a+b+c", "+(+(a b) c)", "a-b-c", "-(-(a b) c)", "a-b+c", "+(-(a b) c)",
                "a+b-c", "-(+(a b) c)", "a+(b-c)", "+(a -(b c))", "a*b+c*d", "+(*(a b) *(c d))", "ab-cd", "-(.(a b) .(c d))");
    }

    private static void productsAndFactors(Sentences sentences) {
        sentences.says("Reading", "A product is factors");
        reads("a*b", "*(a b)", "a/b", "/(a b)", "ab", ".(a b)", "a*b*c", "*(*(a b) c)", "a/b/c", "/(/(a b) c)",
                "abc", ".(.(a b) c)", "a/bc", ".(/(a b) c)", "ab/c", "/(.(a b) c)", "a*bc", ".(*(a b) c)", "ab*c", "*(.(a b) c)",
                "a/b*c", "*(/(a b) c)", "a(bc)", ".(a .(b c))", "2x", ".(2 x)", "x2", ".(x 2)", "2(3)", ".(2 3)",
                "(a)(b)", ".(a b)", "a?", ".(a ?)", "aS(i,1,2,3)", ".(a Si(1 2 3))", "a!b", ".(!(a) b)", "a^bc", ".(^(a b) c)",
                "a_bc", ".(_(a b) c)", "a*-b", "*(a ~(b))", "a/-b", "/(a ~(b))");
        sentences.says("Reading", "A factor is '-'");
        reads("-a", "~(a)", "--a", "~(~(a))", "---a", "~(~(~(a)))", "-a^b", "~(^(a b))", "-ab", ".(~(a) b)", "-a*b", "*(~(a) b)",
                "-a/b", "/(~(a) b)", "-a+b", "+(~(a) b)", "-a!", "~(!(a))", "a+-b", "+(a ~(b))", "a--b", "-(a ~(b))",
                "a---b", "-(a ~(~(b)))", "-", "~(?)", "a*-", "*(a ~(?))");
    }

    private static void powersAndBodies(Sentences sentences) {
        sentences.says("Reading", "A power is a body");
        reads("a^b", "^(a b)", "a^b^c", "^(a ^(b c))", "a^-b", "^(a ~(b))", "a^--b", "^(a ~(~(b)))", "a^-b^c", "^(a ~(^(b c)))",
                "a^b*c", "*(^(a b) c)", "a^-b*c", "*(^(a ~(b)) c)", "a^b!", "^(a !(b))", "a!^b", "^(!(a) b)", "a_b^c_d",
                "^(_(a b) _(c d))", "(a^b)^c", "^(^(a b) c)", "a^(b+c)", "^(a +(b c))");
        sentences.says("Reading", "A body is an atom");
        reads("a_b", "_(a b)", "a!", "!(a)", "a!!!", "!(!(!(a)))", "a_b!!", "!(!(_(a b)))", "a_12", "_(a 12)", "a_f(b)", "_(a f(b))",
                "f(a)_b", "_(f(a) b)", "a_(b)", "_(a b)", "(a_b)_c", "_(_(a b) c)", "(a!)_b", "_(!(a) b)", "a_|b|", "_(a |(b))",
                "a_?", "_(a ?)", "a_S(i,1,2,3)", "_(a Si(1 2 3))", "a_-b", "-(_(a ?) b)", "a_12345", ".(_(a 1234) 5)");
        faultAt(3, "a_b_c", "x_1_2");
        faultAt(2, "a__b", "a!_b", "a__");
        faultAt(4, "a_b!_c", "a!!!_b");
    }

    private static void numbersAndLetters(Sentences sentences) {
        sentences.says("Reading", "An atom is a number of 1 to 4 digits");
        reads("0", "0", "7", "7", "12", "12", "123", "123", "1234", "1234", "9999", "9999", "0001", "1", "0000", "0",
                "12345", ".(1234 5)", "00000", ".(0 0)", "12345678", ".(1234 5678)", "123456789", ".(.(1234 5678) 9)",
                "10000", ".(1000 0)", "2^12345", ".(^(2 1234) 5)", "-12345", ".(~(1234) 5)");
        for (char letter = 'a'; letter <= 'z'; letter++) {
            reads("" + letter, "" + letter);
            if (letter < 'f' || letter > 'h') {
                reads(letter + "(x)", ".(" + letter + " x)");
            }
        }
        reads("f(a)", "f(a)", "g(a,b)", "g(a b)", "h(a,b,c)", "h(a b c)", "f(a=b,c<d,e>f)", "f(=(a b) <(c d) >(e f))",
                "f(g(h(a)))", "f(g(h(a)))", "fa", ".(f a)", "g|a|", ".(g |(a))", "h?", ".(h ?)", "ff(a)", ".(f f(a))");
        faultAt(7, "f(a,b,c,d)", "f(a,b,c,", "g(1,2,3,");
    }

    private static void otherAtoms(Sentences sentences) {
        sentences.says("Reading", "An atom is a number of 1 to 4 digits");
        reads("(a)", "a", "((a))", "a", "(a=b)", "=(a b)", "(a=b)c", ".(=(a b) c)", "|a|", "|(a)", "|a=b|", "|(=(a b))",
                "S(i,1,2,3)", "Si(1 2 3)", "S(f,f,f(f),f)", "Sf(f f(f) f)", "S(z,a=b,c,d<e)", "Sz(=(a b) c <(d e))", "?", "?");
        faultAt(2, "(a,b)", "|a,b|", "S(1,1,2,3)");
        faultAt(9, "S(i,1,2,3,", "S(i,1,2,3,4)");
        FormulaKiln kiln = Kit.kiln("S(i,i,i,i)");
        Kit.due("not bound in from", kiln.binder(0, 1), -1);
        Kit.due("not bound in to", kiln.binder(0, 2), -1);
        Kit.due("bound in the last relation", kiln.binder(0, 3), 0);
    }

    private static void goingOn(Sentences sentences) {
        sentences.says("Reading", "Where something could go on");
        reads("12", "12", "f(a)b", ".(f(a) b)", "f(a)!", "!(f(a))", "a_b!", "!(_(a b))", "a^b!", "^(a !(b))", "a^b_c", "^(a _(b c))",
                "a^b^c", "^(a ^(b c))", "-a^b", "~(^(a b))", "-a_b", "~(_(a b))", "a-b", "-(a b)", "a^-b!", "^(a ~(!(b)))",
                "a=b-c", "=(a -(b c))", "a!b!", ".(!(a) !(b))", "-a-b", "-(~(a) b)", "f(a)(b)", ".(f(a) b)");
    }

    private static void bars(Sentences sentences) {
        sentences.says("Reading", "A '|' behind a power");
        reads("|a|", "|(a)", "|a|b", ".(|(a) b)", "|a|b|c|", ".(.(|(a) b) |(c))", "|a|b|c", ".(.(|(a) b) |(c))", "a|b|", ".(a |(b))",
                "||a||", "|(|(a))", "||a|b|", "|(.(|(a) b))", "|||a|||", "|(|(|(a)))", "|a||b|", ".(|(a) |(b))");
        reads("|a^b|", "|(^(a b))", "|a_b|", "|(_(a b))", "|a!|", "|(!(a))", "|-a|", "|(~(a))", "|a^-b|c", ".(|(^(a ~(b))) c)",
                "|a+b|", "|(+(a b))", "|2|", "|(2)", "|f(a)|", "|(f(a))", "|(a)|", "|(a)", "|?|", "|(?)", "|a|_b", "_(|(a) b)",
                "|S(i,1,2,3)|", "|(Si(1 2 3))", "|a|!", "!(|(a))", "|a|^|b|", "^(|(a) |(b))", "|a |", "|(a)");
        // A factor is due: the '|' begins one.
        reads("|a+|b||", "|(+(a |(b)))", "|a-|b||", "|(-(a |(b)))", "|a*|b||", "|(*(a |(b)))", "|a/|b||", "|(/(a |(b)))",
                "|a^|b||", "|(^(a |(b)))", "|a_|b||", "|(_(a |(b)))", "|-|b||", "|(~(|(b)))", "|a=|b||", "|(=(a |(b)))",
                "||", "|(|(?))", "|a+|", "|(+(a |(?)))", "| |", "|(|(?))");
        // Another bracket was opened since.
        reads("|(a|b|)|", "|(.(a |(b)))", "|f(a|b|)|", "|(f(.(a |(b))))", "|f(a,b|c|)|", "|(f(a .(b |(c))))",
                "|S(i,1,2,a|b|)|", "|(Si(1 2 .(a |(b))))", "|(a|b", "|(.(a |(b)))", "|(a)|b", ".(|(a) b)", "|f(a)|b", ".(|(f(a)) b)",
                "(|a|b)", ".(|(a) b)", "f(|a|b,|c|d)", "f(.(|(a) b) .(|(c) d))", "|(|a|)|", "|(|(a))");
        faultAt(3, "S(i|", "S(i|a|", "(|a)", "|a=)");
        faultAt(1, "S|a|");
        faultAt(2, "|a)", "|a,", "S(|", "(|)");
        faultAt(4, "f(|a)", "f(|a,", "|(|a)");
    }

    private static void missing(Sentences sentences) {
        sentences.says("Reading", "An atom that is missing is a hole");
        reads("+", "+(? ?)", "-", "~(?)", "*", "*(? ?)", "/", "/(? ?)", "^", "^(? ?)", "_", "_(? ?)", "!", "!(?)", "=", "=(? ?)",
                "<", "<(? ?)", ">", ">(? ?)", "()", "?", "|", "|(?)", "(", "?", "a+", "+(a ?)", "a*/b", "/(*(a ?) b)",
                "a+*b", "+(a *(? b))", "a^*b", "*(^(a ?) b)", "a_^b", "^(_(a ?) b)", "a_!", "!(_(a ?))", "a^_b", "^(a _(? b))",
                "a=", "=(a ?)", "=a", "=(? a)", "!!", "!(!(?))", "^^", "^(? ^(? ?))", "-*b", "*(~(?) b)", "()b", ".(? b)",
                "a()", ".(a ?)", "a-", "-(a ?)", "a*", "*(a ?)", "a/", "/(a ?)", "a^", "^(a ?)", "a_", "_(a ?)", "-a^-", "~(^(a ~(?)))");
        // What is open at the end ends there.
        reads("f(", "f(?)", "f()", "f(?)", "f(,", "f(? ?)", "f(,,)", "f(? ? ?)", "f(a,", "f(a ?)", "f(a", "f(a)", "f(a,b", "f(a b)",
                "f(a,b,", "f(a b ?)", "f(a,,c", "f(a ? c)", "(a", "a", "((a+b", "+(a b)", "|a", "|(a)", "|a+", "|(+(a ?))",
                "f(g(h(", "f(g(h(?)))", "(|f(a", "|(f(a))", "((", "?", "2(3+", ".(2 +(3 ?))");
    }

    private static void sumsThatAreOpen(Sentences sentences) {
        sentences.says("Reading", "An atom that is missing is a hole");
        reads("S(i", "Si(? ? ?)", "S(i,", "Si(? ? ?)", "S(i,1", "Si(1 ? ?)", "S(i,1,", "Si(1 ? ?)", "S(i,1,2", "Si(1 2 ?)",
                "S(i,1,2,", "Si(1 2 ?)", "S(i,1,2,3", "Si(1 2 3)", "S(i,,,)", "Si(? ? ?)", "S(i,,,3", "Si(? ? 3)", "S(i,,2", "Si(? 2 ?)",
                "S(i,S(j", "Si(Sj(? ? ?) ? ?)", "f(S(i", "f(Si(? ? ?))", "S(i,f(a", "Si(f(a) ? ?)", "S(i,1+", "Si(+(1 ?) ? ?)",
                "(S(i,(1", "Si(1 ? ?)", "|S(i,|a", "|(Si(|(a) ? ?))", "2S(k", ".(2 Sk(? ? ?))", "-S(k", "~(Sk(? ? ?))",
                "a^S(i", "^(a Si(? ? ?))", "a_S(i", "_(a Si(? ? ?))", "S(i,1,2,a=", "Si(1 2 =(a ?))");
        faultAt(1, "S", "Sa", "S1", "S)", "S,", "SS(i,", "S=", "S?");
        faultAt(2, "S(", "S()", "S(1", "S((", "S(S", "S(,", "S(?");
        faultAt(3, "S(i)", "S(i(", "S(ij", "S(i+", "S(i=1,", "S(i1", "f(S");
        faultAt(5, "S(i,1)");
        faultAt(7, "S(i,1,2)", "S(i,S(j)");
    }

    private static void faults(Sentences sentences) {
        sentences.says("Reading", "The fault is the place");
        faultAt(-1, "", " ", "a", "a+", "(((", "|||", "S(i,", "f(");
        faultAt(0, ")", ",", "))", ")a", ",(");
        faultAt(1, "a)", "a,", "a)b)c", "S", "S*(i");
        faultAt(2, "())", "S(", "a )", "ab,");
        faultAt(3, "(a))", "a+b)", "S  ", "S( ", "(a),", "12 )", "S  x");
        faultAt(60, " ".repeat(59) + "S", " ".repeat(58) + "S(", "S" + " ".repeat(59), "S(" + " ".repeat(58));
        faultAt(59, "+".repeat(59) + ")", " ".repeat(59) + ",");
        FormulaKiln kiln = new FormulaKiln();
        Kit.type(kiln, "a)b");
        Kit.due("fault()", kiln.fault(), 1);
        Kit.due("fault() once more", kiln.fault(), 1);
        Kit.due("what is typed stays", kiln.wipe(), 3);
        Kit.due("no fault behind wipe()", kiln.fault(), -1);
    }

    private static void trees(Sentences sentences) {
        sentences.says("Trees", "At most 8 formulas are numbered from 0");
        FormulaKiln kiln = new FormulaKiln();
        for (int number = 0; number < 8; number += 2) {
            Kit.due("formula " + number, Kit.parse(kiln, "a+" + number), number);
            Kit.say(kiln, 9, 1000 + number);
            Kit.due("formula " + (number + 1), kiln.hear(), number + 1);
        }
        Kit.type(kiln, "a");
        Kit.fails("ninth formula typed", IllegalStateException.class, kiln::parse);
        kiln.say(14);
        Kit.fails("ninth formula said", IllegalStateException.class, kiln::hear);
        for (int number = 0; number < 8; number++) {
            Kit.due("formula " + number + " stays", Kit.text(kiln, number), number % 2 == 0 ? "a+" + number : "-" + (number - 1));
        }
        Kit.due("98 nodes", Kit.kiln("-" + "+".repeat(48)).size(0), 98);
        Kit.due("99 nodes", Kit.kiln("+".repeat(49)).size(0), 99);
        FormulaKiln many = new FormulaKiln();
        Kit.type(many, "-" + "+".repeat(49));
        Kit.due("100 nodes are no fault", many.fault(), -1);
        Kit.fails("100 nodes", IllegalStateException.class, many::parse);
        Kit.due("the signs stay", many.wipe(), 50);
        Kit.type(many, "+".repeat(60));
        Kit.fails("121 nodes", IllegalStateException.class, many::parse);
        FormulaKiln tree = Kit.kiln("S(i,a+b,-c,f(d,e,g))");
        int[][] parts = {{1, 4, 6}, {2, 3}, {}, {}, {5}, {}, {7, 8, 9}, {}, {}, {}};
        Kit.due("size", tree.size(0), parts.length);
        for (int node = 0; node < parts.length; node++) {
            Kit.due("parts of " + node, tree.parts(0, node), parts[node].length);
            for (int index = 0; index < parts[node].length; index++) {
                Kit.due("part " + index + " of " + node, tree.part(0, node, index), parts[node][index]);
            }
        }
    }

    private static void kinds(Sentences sentences) {
        sentences.says("Trees", "Kinds are 'n' a number");
        String[] rows = {"7 n", "a v", "? ?", "a+b +", "a-b -", "a*b *", "a/b /", "a^b ^", "a_b _", "a! !", "|a| |", "a=b =", "a<b <",
            "a>b >", "ab .", "-a ~", "f(a) f", "g(a) g", "h(a) h", "S(i,1,2,3) S", "f v", "a(b) .", "f(a,b) f"};
        for (String row : rows) {
            int gap = row.indexOf(' ');
            Kit.due("kind of " + row.substring(0, gap), Kit.kiln(row.substring(0, gap)).kind(0, 0), row.charAt(gap + 1));
        }
        sentences.says("Trees", "A formula that is nothing typed is a hole");
        for (String nothing : new String[] {"", " ", " ".repeat(60)}) {
            reads(nothing, "?");
            Kit.due("its size", Kit.kiln(nothing).size(0), 1);
        }
    }
}
