/** The paragraphs "Writing", "Boxes" and "Lines". */
final class LayoutTerms {
    private static final String KINDS = "nv?+-*./^_!~|=<>fghS";
    private static final String RELATIONS = "=<>";
    private static final String SUMS = RELATIONS + "+-";
    private static final String PRODUCTS = SUMS + "*./";
    private static final String POWERS = PRODUCTS + "~^";

    private LayoutTerms() {
    }

    static void test(Sentences sentences) {
        brackets(sentences);
        blanksWritten(sentences);
        barsWritten(sentences);
        noOtherSigns(sentences);
        boxNumbers(sentences);
        boxesOfSigns(sentences);
        boxesInBrackets(sentences);
        boxesBetween(sentences);
        boxesBehind(sentences);
        fractions(sentences);
        raised(sentences);
        lowered(sentences);
        sumsInStyle0(sentences);
        sumsInOtherStyles(sentences);
        pieces(sentences);
        linesOfPieces(sentences);
    }

    private static void writes(String... pairs) {
        for (int k = 0; k < pairs.length; k += 2) {
            String written = Kit.rewritten(pairs[k]);
            Kit.due("writing \"" + pairs[k] + "\"", written, pairs[k + 1]);
            Kit.due("reading it again", Kit.read(written), Kit.read(pairs[k]));
        }
    }

    /** The kinds of parts that stand in brackets at this side of a kind. */
    private static String bracketed(char kind, int index) {
        switch (kind) {
            case '=':
            case '<':
            case '>':
                return RELATIONS;
            case '+':
            case '-':
                return index == 0 ? RELATIONS : SUMS;
            case '*':
            case '/':
                return index == 0 ? SUMS : PRODUCTS;
            case '.':
                return index == 0 ? SUMS : PRODUCTS + "~";
            case '~':
                return PRODUCTS;
            case '^':
                return index == 0 ? POWERS : PRODUCTS;
            case '_':
                return POWERS + "_!";
            case '!':
                return POWERS;
            default:
                return "";
        }
    }

    private static String written(char kind, String... parts) {
        switch (kind) {
            case '.':
                return parts[0] + parts[1];
            case '~':
                return "-" + parts[0];
            case '!':
                return parts[0] + "!";
            case '|':
                return "|" + parts[0] + "|";
            case 'f':
            case 'g':
            case 'h':
                return kind + "(" + String.join(",", parts) + ")";
            case 'S':
                return "S(k," + String.join(",", parts) + ")";
            case 'n':
                return "7";
            case 'v':
                return "x";
            case '?':
                return "?";
            default:
                return parts[0] + kind + parts[1];
        }
    }

    private static int partCount(char kind) {
        return "nv?".indexOf(kind) >= 0 ? 0 : "~!|".indexOf(kind) >= 0 ? 1 : "fghS".indexOf(kind) >= 0 ? 3 : 2;
    }

    private static String small(char kind) {
        return written(kind, "a", "b", "c");
    }

    private static void sayKind(FormulaKiln kiln, char kind) {
        if (kind == 'n') {
            kiln.say(1007);
        } else if (kind == 'v') {
            kiln.say(123);
        } else {
            kiln.say("+-*./^_!~|=<>?Sfgh".indexOf(kind) + 1);
            if (kind == 'S') {
                kiln.say(110);
            }
        }
    }

    /** Every kind at every side of every kind. */
    private static void brackets(Sentences sentences) {
        sentences.says("Writing", "A formula is written in signs");
        for (char kind : KINDS.toCharArray()) {
            for (int index = 0; index < partCount(kind); index++) {
                for (char part : KINDS.toCharArray()) {
                    FormulaKiln kiln = new FormulaKiln();
                    String[] parts = {"a", "b", "c"};
                    sayKind(kiln, kind);
                    for (int k = 0; k < partCount(kind); k++) {
                        sayKind(kiln, k == index ? part : 'v');
                        for (int inner = 0; k == index && inner < partCount(part); inner++) {
                            kiln.say(100 + inner);
                        }
                        parts[k] = k == index ? small(part) : "x";
                    }
                    boolean isLoose = bracketed(kind, index).indexOf(part) >= 0;
                    parts[index] = isLoose ? "(" + parts[index] + ")" : parts[index];
                    Kit.due(part + " at " + index + " of " + kind, Kit.text(kiln, kiln.hear()), written(kind, parts));
                    Kit.due("it is read back", kiln.isTrue(), true);
                }
            }
        }
        writes("(a+b)+c", "a+b+c", "a+(b+c)", "a+(b+c)", "(ab)c", "abc", "a(bc)", "a(bc)", "a^(b^c)", "a^b^c", "(a^b)^c", "(a^b)^c",
                "(a_b)_c", "(a_b)_c", "a_(b_c)", "a_(b_c)", "(a_b)!", "a_b!", "(a!)!", "a!!", "-(-a)", "--a", "(a=b)=(c=d)",
                "(a=b)=(c=d)", "a^(-(b^c))", "a^-b^c", "-(a/b)", "-(a/b)", "(-a)/b", "-a/b", "((a+b)c)!", "((a+b)c)!",
                "f(a=b,(c=d)=e)", "f(a=b,(c=d)=e)", "S(i,(1=2),(a+b),(c<d))", "S(i,1=2,a+b,c<d)", "|(a=b)|", "|a=b|");
    }

    private static void blanksWritten(Sentences sentences) {
        sentences.says("Writing", "A formula is written in signs");
        writes("1 2", "1 2", "1 1", "1 1", "12345", "1234 5", "12 3", "12 3", "1 2 3", "1 2 3", "1(2 3)", "1(2 3)", "x^2 3", "x^2 3",
                "2 3^x", "2 3^x", "a_1 2", "a_1 2", "2(3!)", "2 3!", "2(3_1)", "2 3_1", "-1 2", "-1 2", "a/1 2", "a/1 2",
                "0 0", "0 0", "1(2/3)", "1(2/3)", "1/2*3", "1/2*3", "1*2", "1*2", "2x", "2x", "x 2", "x2", "2 |3|", "2|3|",
                "2(-3)", "2(-3)", "2! 3", "2!3", "|1|2", "|1|2", "2f(1)3", "2f(1)3", "1+2 3", "1+2 3", "9 x 9", "9x9");
        writes("f (a+b)", "f (a+b)", "g (ab)", "g (ab)", "h (-a)", "h (-a)", "f (a=b)", "f (a=b)", "f ((a+b)^2)", "f (a+b)^2",
                "g ((a+b)!)", "g (a+b)!", "h ((a+b)_2)", "h (a+b)_2", "x^f (a+b)", "x^f (a+b)", "2f (a+b)", "2f (a+b)",
                "a_g (b+c)", "a_g (b+c)", "-h (a+b)", "-h (a+b)", "af (b+c)", "af (b+c)", "a*f (b+c)", "a*f (b+c)");
        writes("f (a)", "fa", "f f(a)", "ff(a)", "f(a)(b+c)", "f(a)(b+c)", "k (a+b)", "k(a+b)", "f*(a+b)", "f*(a+b)", "f!(a+b)", "f!(a+b)",
                "f+(a=b)", "f+(a=b)", "f^(a+b)", "f^(a+b)", "f_(a+b)", "f_(a+b)", "f|a|", "f|a|", "f S(i,1,2,3)", "fS(i,1,2,3)",
                "e(a+b)", "e(a+b)", "i(a+b)", "i(a+b)", "f 2", "f2", "2 f", "2f", "(a+f)(b+c)", "(a+f)(b+c)");
    }

    private static void barsWritten(Sentences sentences) {
        sentences.says("Writing", "A formula is written in signs");
        writes("a(-b)", "a(-b)", "a(--b)", "a(--b)", "a(-b)c", "a(-b)c", "(-a)b", "-ab", "a*(-b)", "a*-b", "a/(-b)", "a/-b",
                "a((-b)!)", "a(-b)!", "a((-b)^2)", "a(-b)^2", "a(-(b^2))", "a(-b^2)");
        writes("|a(|b|)|", "|a(|b|)|", "|a(|b|^2)|", "|a(|b|^2)|", "|a(|b|_2)|", "|a(|b|_2)|", "|a(|b|!)|", "|a(|b|!)|",
                "|a(|b|_2!^3)|", "|a(|b|_2!^3)|", "|2(|3|)|", "|2(|3|)|", "|(a+b)(|c|)|", "|(a+b)(|c|)|", "||a|(|b|)|", "||a|(|b|)|",
                "|a+b(|c|)|", "|a+b(|c|)|", "|a=b(|c|)|", "|a=b(|c|)|", "|a*b(|c|)|", "|a*b(|c|)|", "|-a(|b|)|", "|-a(|b|)|",
                "|a(|b|)c|", "|a(|b|)c|", "|a(|b|)/c|", "|a(|b|)/c|", "||a(|b|)||", "||a(|b|)||", "|f (|a|)|", "|f (|a|)|",
                "|a(|b|)(|c|)|", "|a(|b|)(|c|)|", "|a(|b|)+c(|d|)|", "|a(|b|)+c(|d|)|");
        writes("a|b|", "a|b|", "a|b|c|d|", "a|b|c|d|", "|a||b|", "|a||b|", "|a|b", "|a|b", "||a|b|", "||a|b|", "|a*|b||", "|a*|b||",
                "|a+|b||", "|a+|b||", "|-|b||", "|-|b||", "|a^|b||", "|a^|b||", "|a_|b||", "|a_|b||", "|(a|b|)^2|", "|(a|b|)^2|",
                "|f(a|b|)|", "|f(a|b|)|", "|S(i,a|b|,c|d|,e|f|)|", "|S(i,a|b|,c|d|,e|f|)|", "|a^(b|c|)|", "|a^(b|c|)|",
                "|a(b|c|)|", "|a(b|c|)|", "|a(|b||c|)|", "|a(|b||c|)|", "f(a|b|)", "f(a|b|)", "|(a|b|+c)d|", "|(a|b|+c)d|",
                "|a(b(|c|))|", "|a(b|c|)|", "f|a|", "f|a|");
    }

    private static void noOtherSigns(Sentences sentences) {
        sentences.says("Writing", "No other signs are written");
        writes("((a))", "a", " a + b ", "a+b", "(a)(b)", "ab", "0007", "7", "00", "0", "0 1", "0 1", "1000", "1000", "2000", "2000", "100", "100", "10", "10",
                "9999", "9999", "0100", "100", "9", "9", "f( a , b )", "f(a,b)", "a+", "a+?", "",
                "?", "S (i", "S(i,?,?,?)", "S(i,1,2,3", "S(i,1,2,3)", "f(a,", "f(a,?)", "(a=b", "a=b", "|a", "|a|", "(a*b)/(c)", "a*b/c",
                "1 x", "1x", "a b", "ab", "(a^b)c", "a^bc");
        FormulaKiln kiln = Kit.kiln("1 (2+ a)");
        String written = "1(2+a)";
        Kit.due("length", kiln.length(0), written.length());
        for (int place = 0; place < written.length(); place++) {
            Kit.due("sign at " + place, kiln.sign(0, place), written.charAt(place));
        }
        Kit.fails("a sign behind the last one", IndexOutOfBoundsException.class, () -> kiln.sign(0, 6));
    }

    /** The numbers of a node's box as one text: its width, above, below. */
    private static String box(FormulaKiln kiln, int style, int node) {
        return kiln.box(0, style, node, 'w') + " " + kiln.box(0, style, node, 'a') + " " + kiln.box(0, style, node, 'b');
    }

    /** The root's box in the styles 0, 1, 2 and 3, as far as told. */
    private static void boxes(String signs, String... due) {
        FormulaKiln kiln = Kit.kiln(signs);
        for (int style = 0; style < due.length; style++) {
            Kit.due("box of " + signs + " in the style " + style, box(kiln, style, 0), due[style]);
        }
    }

    private static void boxIn(int style, String... pairs) {
        for (int k = 0; k < pairs.length; k += 2) {
            Kit.due("box of " + pairs[k] + " in the style " + style, box(Kit.kiln(pairs[k]), style, 0), pairs[k + 1]);
        }
    }

    /** Styles of all nodes, for the styles 0, 1, 2 and 3 of the formula. */
    private static void styles(String signs, String... due) {
        FormulaKiln kiln = Kit.kiln(signs);
        for (int style = 0; style < due.length; style++) {
            StringBuilder got = new StringBuilder();
            for (int node = 0; node < kiln.size(0); node++) {
                got.append(kiln.box(0, style, node, 's'));
            }
            Kit.due("styles of " + signs + " in the style " + style, got.toString(), due[style]);
        }
    }

    private static void boxNumbers(Sentences sentences) {
        FormulaKiln kiln = Kit.kiln("x");
        sentences.says("Boxes", "A box has a width");
        Kit.due("width", kiln.box(0, 0, 0, 'w'), 8);
        Kit.due("above", kiln.box(0, 0, 0, 'a'), 8);
        Kit.due("below", kiln.box(0, 0, 0, 'b'), 2);
        sentences.says("Boxes", "There are the styles 0 to 3");
        styles("x", "0", "1", "2", "3");
        styles("a+b", "000", "111", "222", "333");
        styles("f(a,b,c)", "0000", "1111", "2222", "3333");
        styles("|-a!|", "0000", "1111", "2222", "3333");
        for (int style : new int[] {-1, 4, 5, Integer.MIN_VALUE, Integer.MAX_VALUE}) {
            Kit.fails("no style " + style, IllegalArgumentException.class, () -> kiln.box(0, style, 0, 's'));
        }
        sentences.says("Boxes", "A sign is 8 wide");
        boxes("x", "8 8 2", "8 8 2", "6 6 1", "4 4 1");
    }

    private static void boxesOfSigns(Sentences sentences) {
        sentences.says("Boxes", "A number is as many signs as it has digits");
        String[] one = {"8 8 2", "8 8 2", "6 6 1", "4 4 1"};
        String[] two = {"16 8 2", "16 8 2", "12 6 1", "8 4 1"};
        String[] three = {"24 8 2", "24 8 2", "18 6 1", "12 4 1"};
        String[] four = {"32 8 2", "32 8 2", "24 6 1", "16 4 1"};
        for (String signs : new String[] {"0", "9", "0009", "0000", "a", "z", "?", ""}) {
            boxes(signs, one);
        }
        boxes("10", two);
        boxes("99", two);
        boxes("0010", two);
        boxes("100", three);
        boxes("999", three);
        boxes("1000", four);
        boxes("9999", four);
    }

    private static void boxesInBrackets(Sentences sentences) {
        sentences.says("Boxes", "Parts in brackets as they are written");
        boxes("(a+b)c", "48 9 3", "48 9 3", "32 7 2", "24 5 2");
        boxes("a(-b)", "32 9 3", "32 9 3", "26 7 2", "20 5 2");
        boxes("((a+b)c)!", "64 10 4", "64 10 4", "46 8 3", "36 6 3");
        boxIn(0, "(a)b", "16 8 2", "f((a+b))", "48 9 3", "|(a+b)|", "36 9 3", "(a+b)+c", "56 8 2", "a+(b+c)", "64 9 3",
                "|a(|b|)|", "32 11 5", "a|b|", "20 9 3", "(a+b)(c+d)", "80 9 3", "((a=b)=c)=d", "102 10 4");
        FormulaKiln kiln = Kit.kiln("((a+b)c)!");
        Kit.due("a node in brackets, without them", box(kiln, 0, 1), "48 9 3");
        Kit.due("a node in brackets, without them", box(kiln, 0, 2), "32 8 2");
    }

    private static void boxesBetween(Sentences sentences) {
        sentences.says("Boxes", "'+' and '-' are a sign between both parts");
        for (String kind : new String[] {"+", "-"}) {
            boxes("a" + kind + "b", "32 8 2", "32 8 2", "18 6 1", "12 4 1");
        }
        for (String kind : new String[] {"=", "<", ">"}) {
            boxes("a" + kind + "b", "34 8 2", "34 8 2", "18 6 1", "12 4 1");
        }
        boxes("a*b", "24 8 2", "24 8 2", "18 6 1", "12 4 1");
        boxes("ab", "16 8 2", "16 8 2", "12 6 1", "8 4 1");
        boxes("1 2", "16 8 2", "16 8 2", "12 6 1", "8 4 1");
        boxes("-a", "16 8 2", "16 8 2", "12 6 1", "8 4 1");
        boxes("a!", "16 8 2", "16 8 2", "12 6 1", "8 4 1");
        boxes("|a|", "12 9 3", "12 9 3", "10 7 2", "8 5 2");
        boxes("||a||", "16 10 4", "16 10 4", "14 8 3", "12 6 3");
        for (String letter : new String[] {"f", "g", "h"}) {
            boxes(letter + "(x)", "24 9 3", "24 9 3", "20 7 2", "16 5 2");
            boxes(letter + "(x,y)", "40 9 3", "40 9 3", "32 7 2", "24 5 2");
            boxes(letter + "(x,y,z)", "56 9 3", "56 9 3", "44 7 2", "32 5 2");
        }
        boxes("f(f(x))", "40 10 4", "40 10 4", "34 8 3", "28 6 3");
    }

    private static void boxesBehind(Sentences sentences) {
        sentences.says("Boxes", "What stands behind each other has the greatest heights");
        boxIn(0, "a+b/c", "36 14 8", "b/c+a", "36 14 8", "|a|+b/c", "40 14 8", "x^2y_3", "28 11 5", "y_3x^2", "28 11 5",
                "x^2=y_3", "46 11 5", "x^2*y_3", "36 11 5", "f(x^2,y_3)", "52 12 6", "-x^2", "22 11 2", "y_3!", "22 8 5",
                "f(x_2,y,z^3)", "68 12 6");
    }

    private static void fractions(Sentences sentences) {
        sentences.says("Boxes", "'/' has its parts in the next style");
        boxes("a/b", "12 14 8", "10 11 5", "8 9 3", "8 9 3");
        styles("a/b", "011", "122", "233", "333");
        styles("a/b/c", "01221", "12332", "23333", "33333");
        styles("a/(b/c)", "01122", "12233", "23333", "33333");
        boxIn(0, "abc/d", "28 14 8", "a/(bcd)", "36 14 10", "(a+b)/c", "44 16 8", "x^2/y", "18 17 8", "a/x_2", "18 14 11",
                "a/b/c", "14 20 8", "a/(b/c)", "22 14 16", "12/3", "20 14 8", "3/12", "20 14 8");
    }

    private static void raised(Sentences sentences) {
        sentences.says("Boxes", "'^' has its right part in the style 2");
        boxes("x^2", "14 11 2", "14 11 2", "10 8 1", "8 7 1");
        styles("x^2", "002", "112", "223", "333");
        styles("x^y^z", "00223", "11223", "22333", "33333");
        // What the left one is above is 9, 7 and 5: half of it is cut.
        boxes("(x+y)^2", "46 11 3", "46 11 3", "30 8 2", "24 7 2");
        boxes("|x|^2", "18 11 3", "18 11 3", "14 8 2", "12 7 2");
        boxIn(0, "(|x|y)^2", "34 12 4", "x^(a/b)", "24 15 2", "x^(a/(b/c))", "36 15 8", "(a/b)^2", "26 15 9", "x^23", "20 11 2");
        boxIn(2, "x^(a/b)", "22 14 1", "x^23", "14 8 1");
    }

    private static void lowered(Sentences sentences) {
        sentences.says("Boxes", "'^' has its right part in the style 2");
        boxes("x_2", "14 8 5", "14 8 5", "10 6 4", "8 4 4");
        styles("x_2", "002", "112", "223", "333");
        styles("x_2^y", "00022", "11122", "22233", "33333");
        boxes("|x|_2", "18 9 6", "18 9 6", "14 7 5", "12 5 5");
        boxIn(0, "(a/b)_2", "26 15 12", "x_(a/b)", "24 8 8", "x_(a/b/c)", "28 13 8", "(a+b)_2", "46 9 6", "x_23", "20 8 5");
    }

    private static void sumsInStyle0(Sentences sentences) {
        sentences.says("Boxes", "'S' is two signs wide");
        styles("S(k,a,b,c)", "0220", "1221", "2332", "3333");
        boxIn(0, "S(k,0,9,k)", "26 19 13", "S(k,0,123,k)", "26 19 13", "S(k,0,1234,k)", "32 19 13", "S(k,0,12345,k)", "38 19 13",
                "S(k,12,9,k)", "32 19 13", "S(k,a/b,0,k)", "28 19 18", "S(k,0,a/b,k)", "26 24 13", "S(k,0,9,a/b)", "30 19 13",
                "S(k,0,9,ab)", "34 19 13", "S(k,0,9,k)+a", "50 19 13");
    }

    private static void sumsInOtherStyles(Sentences sentences) {
        sentences.says("Boxes", "'S' is two signs wide");
        boxIn(1, "S(k,0,9,k)", "42 12 7", "S(k,0,12345,k)", "54 12 7", "S(k,0,123,k)", "42 12 7", "S(k,0,1234,k)", "48 12 7",
                "S(k,12,9,k)", "48 12 7", "S(k,0,a/b,k)", "42 15 7", "S(k,a/b,0,k)", "44 12 9", "S(k,a/b/c/d,0,k)", "52 17 9",
                "S(k,0,a/(b/(c/d)),k)", "56 15 15", "S(k,0,9,a/b)", "44 12 7", "S(k,0,9,a/b/c)", "46 16 7", "S(k,0,9,ab)", "50 12 7");
        boxIn(2, "S(k,0,9,k)", "30 10 7", "S(k,0,9999,k)", "34 10 7");
        boxIn(3, "S(k,0,9,k)", "24 10 7", "S(k,0,9999,k)", "28 10 7");
    }

    private static void lines(String signs, int... pairs) {
        FormulaKiln kiln = Kit.kiln(signs);
        for (int k = 0; k < pairs.length; k += 2) {
            Kit.due("lines of " + signs + " at " + pairs[k], kiln.lines(0, pairs[k]), pairs[k + 1]);
        }
    }

    private static void pieces(Sentences sentences) {
        sentences.says("Lines", "The pieces of a formula are");
        // Behind each row: how wide the pieces are.
        lines("a+b", 32, 1); // 8 24
        lines("a-b+c", 56, 1, 55, 2, 32, 2); // 8 24 24
        lines("a=b", 34, 1, 33, 2); // 8 26
        lines("a<b", 34, 1, 33, 2);
        lines("a>b", 34, 1, 33, 2);
        lines("a+b=c-d", 82, 1, 81, 2, 58, 2, 57, 3, 41, 3, 32, 3); // 8 24 26 24
        lines("(a=b)=c", 68, 1, 67, 2, 41, 2); // 42 26
        lines("a=(b=c)", 68, 1, 67, 2, 32, 2); // 8 60
        lines("(a+b)=(c+d)", 82, 1, 81, 2, 32, 3);
        lines("a-(b+c)", 64, 1, 63, 2, 32, 2); // 8 56
        lines("a*b+c", 48, 1, 47, 2); // 24 24
        lines("-a+b", 40, 1, 39, 2); // 16 24
        lines("(a=b)+c", 66, 1, 65, 2); // 42 24
        // One piece each, wider than the line.
        for (String signs : new String[] {"(a+b)c", "(a+b)(c+d)", "f(a+b,c+d)", "-(a+b)", "|a+b+c|", "(a=b)c", "(a+b+c)!", "abcdefghi",
            "S(i,a+b,c+d,e+f)", "f(a=b)", "-(a=b)", "1234a"}) {
            lines(signs, 32, 1);
        }
    }

    private static void linesOfPieces(Sentences sentences) {
        sentences.says("Lines", "Pieces are put on lines of a width");
        lines("a+b+c+d+e", 104, 1, 103, 2, 80, 2, 79, 2, 64, 2, 63, 3, 56, 3, 55, 4, 40, 4, 39, 4, 32, 4); // 8 24 24 24 24
        lines("a+bcdefghi+c", 112, 1, 111, 2, 96, 2, 88, 2, 87, 3, 64, 3, 32, 3); // 8 80 24
        lines("a+bcdefghi+c", 120, 1, 9999, 1);
        lines("bcdefghi+a", 88, 1, 87, 2, 63, 2, 32, 2); // 64 24
        lines("bcdefghi+a+b", 64, 2, 63, 3, 112, 1, 111, 2); // 64 24 24
        lines("a+bcdefghi", 88, 1, 87, 2, 32, 2); // 8 80
        lines("bcdefghi+bcdefghi", 144, 1, 143, 2, 32, 2); // 64 80
        lines("bcdefghi", 64, 1, 63, 1, 32, 1);
        lines("a/b+c", 36, 1, 35, 2); // 12 24
        lines("S(k,0,9,k)+a", 50, 1, 49, 2); // 26 24
        lines("x^2+y", 38, 1, 37, 2); // 14 24
        FormulaKiln kiln = Kit.kiln("a");
        for (int width : new int[] {31, 10000, 0, -1, Integer.MIN_VALUE, Integer.MAX_VALUE}) {
            Kit.fails("no width " + width, IllegalArgumentException.class, () -> kiln.lines(0, width));
        }
        Kit.due("width 32", kiln.lines(0, 32), 1);
        Kit.due("width 9999", kiln.lines(0, 9999), 1);
    }
}
