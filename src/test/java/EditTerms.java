import java.util.NoSuchElementException;

/** The paragraphs "Caret and edits" and "Names". */
final class EditTerms {
    private static final Class<NoSuchElementException> NO_SUCH = NoSuchElementException.class;
    private static final Class<UnsupportedOperationException> UNSUPPORTED = UnsupportedOperationException.class;

    private EditTerms() {
    }

    static void test(Sentences sentences) {
        caretStays(sentences);
        caretIsLost(sentences);
        puttingIn(sentences);
        takingOut(sentences);
        tenEdits(sentences);
        whatIsAnEdit(sentences);
        bound(sentences);
        renaming(sentences);
        capturing(sentences);
        settingLetters(sentences);
        settingWithRenaming(sentences);
        freshLetters(sentences);
        alike(sentences);
        found(sentences);
    }

    private static void nowhere(String what, FormulaKiln kiln) {
        for (char way : "udlr".toCharArray()) {
            Kit.fails(what + ": move('" + way + "')", NO_SUCH, () -> kiln.move(way));
        }
        Kit.fails(what + ": take()", NO_SUCH, kiln::take);
        Kit.fails(what + ": put()", NO_SUCH, kiln::put);
    }

    /** Takes out at the caret, so that the hole shows where it stood. */
    private static void stands(String what, FormulaKiln kiln, int formula, String due) {
        kiln.take();
        Kit.due(what, Kit.text(kiln, formula), due);
        Kit.due("it is sound", kiln.isTrue(), true);
    }

    private static void caretStays(Sentences sentences) {
        sentences.says("Caret and edits", "The caret is at a node of a formula");
        nowhere("at first", Kit.kiln("a+b"));
        FormulaKiln smaller = Kit.kiln("(0+a)+b");
        smaller.caret(0, 2);
        Kit.due("step", smaller.step(0, 'z'), 1);
        stands("at number 2 of a+b", smaller, 0, "a+?");
        FormulaKiln larger = Kit.kiln("x+b", "c*d");
        larger.caret(0, 2);
        larger.set(0, 'x', 1);
        stands("at number 2 of c*d+b", larger, 0, "?*d+b");
        FormulaKiln renamed = Kit.kiln("S(i,1,2,i)");
        renamed.caret(0, 3);
        renamed.rename(0, 0, 'k');
        stands("at number 3 of S(k,1,2,k)", renamed, 0, "S(k,1,2,?)");
        FormulaKiln other = Kit.kiln("a+b", "0+c");
        other.caret(0, 2);
        other.step(1, 'z');
        stands("another formula was changed", other, 0, "a+?");
        FormulaKiln root = Kit.kiln("2*3");
        root.caret(0, 0);
        root.step(0, 'c');
        stands("at the root", root, 0, "?");
        FormulaKiln asked = Kit.kiln("a+b");
        asked.caret(0, 1);
        Kit.parse(asked, "c");
        asked.rename(Kit.parse(asked, "S(i,1,2,3)"), 0, 'k');
        asked.free(0, 'a');
        asked.box(0, 0, 0, 'w');
        stands("other calls let it stay", asked, 0, "?+b");
    }

    private static void caretIsLost(Sentences sentences) {
        sentences.says("Caret and edits", "The caret is at a node of a formula");
        FormulaKiln last = Kit.kiln("(0+a)+b");
        last.caret(0, 3);
        last.step(0, 'z');
        nowhere("there is no number 3 of a+b", last);
        FormulaKiln grown = Kit.kiln("a+0", "b+c");
        grown.caret(0, 1);
        grown.step(0, 'z');
        nowhere("there is no number 1 of a", grown);
        grown.set(0, 'a', 1);
        nowhere("it stays nowhere, though there is a number 1 again", grown);
        FormulaKiln kept = Kit.kiln("a+0", "b+c");
        kept.caret(0, 0);
        kept.step(0, 'z');
        kept.set(0, 'a', 1);
        Kit.due("the root is always there", kept.move('d'), 1);
        FormulaKiln hidden = Kit.kiln("x*(1+2)", "c");
        hidden.caret(0, 3);
        hidden.step(0, 'c');
        nowhere("there is no number 3 of x*3", hidden);
        hidden.caret(0, 2);
        hidden.set(0, 'x', 1);
        stands("it can be put anew", hidden, 0, "c*?");
    }

    private static void puttingIn(Sentences sentences) {
        sentences.says("Caret and edits", "To put in replaces this node");
        FormulaKiln kiln = Kit.kiln("(a+b)c", "z");
        kiln.caret(0, 1);
        Kit.type(kiln, "x=y");
        Kit.due("put() of a relation", kiln.put(), 5);
        Kit.due("put in, with all parts", Kit.text(kiln, 0), "(x=y)c");
        Kit.due("what was typed is wiped", kiln.wipe(), 0);
        Kit.due("the caret stays", kiln.move('d'), 2);
        Kit.due("put() of nothing", kiln.put(), 5);
        Kit.due("a hole is put in", Kit.text(kiln, 0), "(?=y)c");
        Kit.type(kiln, "f(1,(2");
        kiln.put();
        Kit.due("what is open at the end ends there", Kit.text(kiln, 0), "(f(1,2)=y)c");
        kiln.caret(0, 6);
        Kit.type(kiln, "d");
        kiln.put();
        Kit.due("the last node", Kit.text(kiln, 0), "(f(1,2)=y)d");
        kiln.caret(0, 0);
        Kit.type(kiln, "k");
        Kit.due("put() at the root", kiln.put(), 1);
        Kit.due("the root", Kit.text(kiln, 0), "k");
        Kit.due("the other formula", Kit.text(kiln, 1), "z");
        Kit.type(kiln, "m");
        kiln.put();
        Kit.due("the caret is at the root still", Kit.text(kiln, 0), "m");
        Kit.sound(kiln, 2);
    }

    private static void takingOut(Sentences sentences) {
        sentences.says("Caret and edits", "To take out leaves a hole");
        FormulaKiln kiln = Kit.kiln("a+b*c");
        kiln.caret(0, 2);
        Kit.due("take()", kiln.take(), 2);
        Kit.due("a hole is left", Kit.text(kiln, 0), "a+?");
        Kit.due("take() of a hole", kiln.take(), 0);
        Kit.due("a hole is left", Kit.text(kiln, 0), "a+?");
        kiln.caret(0, 0);
        Kit.due("take() of the root", kiln.take(), 2);
        Kit.due("a hole is left", Kit.text(kiln, 0), "?");
        Kit.due("take() of the last hole", kiln.take(), 0);
        Kit.sound(kiln, 1);
        for (String due : new String[] {"?", "a+?", "a+?", "a+b*c"}) {
            Kit.due("undo()", kiln.undo(), 0);
            Kit.due("undone", Kit.text(kiln, 0), due);
            Kit.sound(kiln, 1);
        }
        Kit.fails("no more edits", NO_SUCH, kiln::undo);
    }

    private static FormulaKiln edited(int edits) {
        FormulaKiln kiln = Kit.kiln("0", "0", "0");
        for (int edit = 1; edit <= edits; edit++) {
            kiln.caret(edit % 3, 0);
            Kit.type(kiln, "" + edit);
            kiln.put();
        }
        return kiln;
    }

    private static void tenEdits(Sentences sentences) {
        sentences.says("Caret and edits", "The last 10 edits of all can be undone");
        for (int edits : new int[] {0, 1, 2, 9, 10, 11, 19, 20, 21, 35}) {
            FormulaKiln kiln = edited(edits);
            for (int edit = edits; edit > Math.max(0, edits - 10); edit--) {
                Kit.due("undo() of " + edit, kiln.undo(), edit % 3);
                Kit.due("undone to " + (edit - 3), Kit.text(kiln, edit % 3), "" + Math.max(0, edit - 3));
                nowhere("behind undo()", kiln);
            }
            Kit.fails("no more of " + edits + " edits", NO_SUCH, kiln::undo);
        }
        FormulaKiln mixed = edited(10);
        for (int k = 0; k < 4; k++) {
            mixed.undo();
        }
        mixed.caret(0, 0);
        for (int k = 0; k < 5; k++) {
            mixed.take();
        }
        for (int formula : new int[] {0, 0, 0, 0, 0, 0, 2, 1, 0, 2}) {
            Kit.due("5 new edits, and 5 old ones", mixed.undo(), formula);
        }
        Kit.fails("no more than 10", NO_SUCH, mixed::undo);
        Kit.due("the first edit can't be undone", Kit.text(mixed, 1), "1");
    }

    private static void whatIsAnEdit(Sentences sentences) {
        sentences.says("Caret and edits", "The last 10 edits of all can be undone");
        FormulaKiln kiln = Kit.kiln("S(i,1,2,x)+0", "y", "x");
        kiln.rename(0, 1, 'i');
        kiln.set(0, 'z', 1);
        kiln.set(0, 'i', 1);
        Kit.fails("a captured rename", UNSUPPORTED, () -> kiln.rename(0, 1, 'x'));
        Kit.fails("a step that can't be done", NO_SUCH, () -> kiln.step(0, 'd'));
        Kit.parse(kiln, "new");
        Kit.fails("none of these is an edit", NO_SUCH, kiln::undo);
        kiln.rename(0, 1, 'k');
        kiln.set(0, 'x', 2);
        kiln.set(0, 'x', 1);
        kiln.step(0, 'z');
        kiln.caret(0, 3);
        kiln.take();
        kiln.put();
        Kit.due("six edits", Kit.text(kiln, 0), "S(k,1,2,?)");
        for (String due : new String[] {"S(k,1,2,?)", "S(k,1,2,y)", "S(k,1,2,y)+0", "S(k,1,2,x)+0", "S(k,1,2,x)+0", "S(i,1,2,x)+0"}) {
            kiln.undo();
            Kit.due("undone", Kit.text(kiln, 0), due);
        }
        Kit.fails("no more edits", NO_SUCH, kiln::undo);
    }

    private static void bound(Sentences sentences) {
        sentences.says("Names", "A letter node is bound by the innermost 'S'");
        FormulaKiln kiln = Kit.kiln("i+S(i,i,j,i*S(j,i,j,i*S(i,j,k,i*j*k)))");
        // 0 + 1 i 2 S 3 i 4 j 5 * 6 i 7 S 8 i 9 j 10 * 11 i 12 S 13 j 14 k 15 * 16 * 17 i 18 j 19 k
        int[][] due = {{1, -1}, {3, -1}, {4, -1}, {6, 2}, {8, 2}, {9, -1}, {11, 2}, {13, 7}, {14, -1}, {17, 12}, {18, 7}, {19, -1}};
        for (int[] row : due) {
            Kit.due("binder of " + row[0], kiln.binder(0, row[0]), row[1]);
        }
        Kit.due("free i", kiln.free(0, 'i'), 2);
        Kit.due("free j", kiln.free(0, 'j'), 2);
        Kit.due("free k", kiln.free(0, 'k'), 2);
        Kit.due("free l", kiln.free(0, 'l'), 0);
        FormulaKiln own = Kit.kiln("S(f,1,2,f(f))");
        Kit.due("a letter of 'f' is bound", own.binder(0, 4), 0);
    }

    private static void renames(String signs, int node, char letter, int count, String due) {
        FormulaKiln kiln = Kit.kiln(signs);
        Kit.due("renaming " + node + " in " + signs + " to " + letter, kiln.rename(0, node, letter), count);
        Kit.due("renamed", Kit.text(kiln, 0), due);
        Kit.sound(kiln, 1);
        FormulaKiln both = Kit.kiln(signs, due);
        Kit.due("it is alike", both.areAlike(0, 1), true);
    }

    private static void refuses(String signs, int node, char letter) {
        FormulaKiln kiln = Kit.kiln(signs);
        Kit.fails("renaming " + node + " in " + signs + " to " + letter, UNSUPPORTED, () -> kiln.rename(0, node, letter));
        Kit.due("as it was", Kit.text(kiln, 0), signs);
    }

    private static void renaming(Sentences sentences) {
        sentences.says("Names", "To rename an 'S' gives it");
        renames("S(i,i,i,i*i)", 0, 'k', 2, "S(k,i,i,k*k)");
        renames("S(i,1,2,5)", 0, 'k', 0, "S(k,1,2,5)");
        renames("S(i,1,2,i)", 0, 'i', 0, "S(i,1,2,i)");
        renames("S(i,1,2,S(i,i,2,i)+i)", 0, 'k', 2, "S(k,1,2,S(i,k,2,i)+k)");
        renames("S(i,1,2,S(i,i,2,i)+i)", 4, 'k', 1, "S(i,1,2,S(k,i,2,k)+i)");
        renames("k+S(i,k,k,i)+k", 3, 'k', 1, "k+S(k,k,k,k)+k");
        renames("S(i,1,2,i)+S(i,1,2,i)", 1, 'a', 1, "S(a,1,2,a)+S(i,1,2,i)");
        renames("S(i,1,2,i)", 0, 'a', 1, "S(a,1,2,a)");
        renames("S(i,1,2,i)", 0, 'z', 1, "S(z,1,2,z)");
        renames("S(i,1,2,f(i))", 0, 'f', 1, "S(f,1,2,f(f))");
    }

    private static void capturing(Sentences sentences) {
        sentences.says("Names", "To rename an 'S' gives it");
        refuses("S(i,1,2,i*k)", 0, 'k');
        refuses("S(i,1,2,k)", 0, 'k');
        refuses("S(k,1,2,S(i,1,2,i*k))", 3, 'k');
        refuses("S(i,1,2,S(k,1,2,i))", 0, 'k');
        refuses("S(i,1,2,S(k,1,2,S(j,1,2,i)))", 0, 'k');
        refuses("S(i,1,2,S(k,1,2,S(j,1,2,j*i)))", 0, 'j');
        refuses("S(i,1,2,S(k,k,2,1))", 0, 'k');
        renames("S(i,1,2,S(k,i,i,k))", 0, 'k', 2, "S(k,1,2,S(k,k,k,k))");
        renames("S(i,1,2,S(k,1,2,k)*i)", 0, 'k', 1, "S(k,1,2,S(k,1,2,k)*k)");
        renames("S(i,1,2,S(k,1,2,S(i,1,2,i)))", 0, 'k', 0, "S(k,1,2,S(k,1,2,S(i,1,2,i)))");
        renames("S(k,1,2,S(i,k,2,i))", 3, 'k', 1, "S(k,1,2,S(k,k,2,k))");
    }

    private static void sets(String signs, char letter, String filling, int count, String due) {
        FormulaKiln kiln = Kit.kiln(signs, filling);
        Kit.due("setting " + letter + " in " + signs + " to " + filling, kiln.set(0, letter, 1), count);
        Kit.due("set", Kit.text(kiln, 0), due);
        Kit.sound(kiln, 2);
        Kit.due("the other one stays", Kit.text(kiln, 1), filling);
    }

    private static void settingLetters(Sentences sentences) {
        sentences.says("Names", "To put a formula for a letter replaces all free ones");
        sets("x", 'x', "a+b", 1, "a+b");
        sets("x*x", 'x', "a+b", 2, "(a+b)*(a+b)");
        sets("y", 'x', "a", 0, "y");
        sets("x+S(x,x,x,x)", 'x', "a", 3, "a+S(x,a,a,x)");
        sets("S(x,1,2,x)", 'x', "a", 0, "S(x,1,2,x)");
        sets("x*x", 'x', "x+1", 2, "(x+1)*(x+1)");
        sets("f(x)f", 'f', "a", 1, "f(x)a");
        sets("x+y", 'y', "?", 1, "x+?");
        FormulaKiln own = Kit.kiln("x+a");
        Kit.due("a formula into itself", own.set(0, 'x', 0), 1);
        Kit.due("set", Kit.text(own, 0), "x+a+a");
    }

    private static void settingWithRenaming(Sentences sentences) {
        sentences.says("Names", "To put a formula for a letter replaces all free ones");
        sets("S(i,1,2,i*x)", 'x', "i", 1, "S(a,1,2,a*i)");
        sets("S(i,1,2,i*x)", 'x', "k", 1, "S(i,1,2,i*k)");
        sets("S(i,x,2,i)", 'x', "i", 1, "S(i,i,2,i)");
        sets("S(i,1,x,i)", 'x', "i", 1, "S(i,1,i,i)");
        sets("S(i,1,2,x)", 'x', "S(i,1,2,i)", 1, "S(i,1,2,S(i,1,2,i))");
        sets("S(i,1,2,x)", 'x', "S(i,i,2,i)", 1, "S(a,1,2,S(i,i,2,i))");
        sets("S(i,1,2,i)+S(i,1,2,x)", 'x', "i", 1, "S(i,1,2,i)+S(a,1,2,i)");
        // Outer ones first, each by then.
        sets("S(i,1,2,S(j,1,2,ijx))", 'x', "i+j", 1, "S(a,1,2,S(b,1,2,ab(i+j)))");
        sets("S(i,1,2,S(i,i,2,ix))", 'x', "i", 1, "S(a,1,2,S(b,a,2,bi))");
        sets("S(i,1,2,x)+S(i,1,2,ix)", 'x', "i", 2, "S(a,1,2,i)+S(b,1,2,bi)");
        sets("S(i,1,2,S(j,1,2,jx))", 'x', "j", 1, "S(i,1,2,S(a,1,2,aj))");
        sets("S(i,1,2,S(j,1,2,jx))", 'x', "i", 1, "S(a,1,2,S(j,1,2,ji))");
        sets("S(i,S(i,1,2,x),2,ix)", 'x', "i", 2, "S(a,S(b,1,2,i),2,ai)");
    }

    private static void freshLetters(Sentences sentences) {
        sentences.says("Names", "To put a formula for a letter replaces all free ones");
        sets("S(a,1,2,x)", 'x', "a", 1, "S(b,1,2,a)");
        sets("S(a,1,2,x)", 'x', "a*b", 1, "S(c,1,2,a*b)");
        sets("S(a,1,2,x)+b", 'x', "a", 1, "S(c,1,2,a)+b");
        sets("S(a,1,2,x)+S(b,1,2,3)", 'x', "a", 1, "S(c,1,2,a)+S(b,1,2,3)");
        sets("S(a,1,2,x)", 'x', "a*S(b,1,2,3)", 1, "S(c,1,2,a*S(b,1,2,3))");
        sets("S(a,1,2,b)", 'b', "a", 1, "S(c,1,2,a)");
        sets("S(a,b,c,x)", 'x', "a", 1, "S(d,b,c,a)");
        sets("S(a,98,99,x)", 'x', "a", 1, "S(b,98,99,a)");
        sets("S(a,b,c,xde)", 'x', "a", 1, "S(f,b,c,ade)");
        sets("S(a,b,c,xdef(1))", 'x', "a", 1, "S(g,b,c,adef(1))");
        sets("S(a,1,2,xbcdefghijklmnopqrstuvwy)", 'x', "a", 1, "S(z,1,2,abcdefghijklmnopqrstuvwy)");
        FormulaKiln again = Kit.kiln("S(a,b,c,xde)", "S(a,1,2,x)", "a");
        again.set(0, 'x', 2);
        Kit.due("letters of another formula", Kit.text(again, 0), "S(f,b,c,ade)");
        again.set(1, 'x', 2);
        Kit.due("are nowhere in this one", Kit.text(again, 1), "S(b,1,2,a)");
        FormulaKiln full = Kit.kiln("S(a,1,2,xbcdefghijklmnopqrstuvwyz)", "a", "k");
        Kit.fails("no letter is left", UNSUPPORTED, () -> full.set(0, 'x', 1));
        Kit.due("none is wanted", full.set(0, 'x', 2), 1);
    }

    private static void alike(Sentences sentences) {
        sentences.says("Names", "Two trees are alike if");
        String[][] alike = {{"a", "a"}, {"7", "0007"}, {"?", ""}, {"S(i,1,2,i)", "S(k,1,2,k)"}, {"S(i,i,k,i)", "S(k,i,k,k)"},
            {"S(i,1,2,3)", "S(k,1,2,3)"}, {"S(i,1,2,S(i,1,2,i))", "S(i,1,2,S(k,1,2,k))"}, {"S(i,1,2,S(k,1,2,ik))", "S(k,1,2,S(i,1,2,ki))"},
            {"S(i,1,2,S(i,i,2,i))", "S(k,1,2,S(i,k,2,i))"}, {"f(S(a,1,2,a),a)", "f(S(b,1,2,b),a)"}, {"S(i,1,2,k)", "S(j,1,2,k)"}};
        for (String[] row : alike) {
            Kit.due(row[0] + " is alike " + row[1], Kit.kiln(row[0], row[1]).areAlike(0, 1), true);
            Kit.due(row[1] + " is alike " + row[0], Kit.kiln(row[1], row[0]).areAlike(0, 1), true);
        }
        String[][] unlike = {{"a", "b"}, {"7", "8"}, {"a", "?"}, {"ab", "a*b"}, {"a+b", "b+a"}, {"a-b", "a+b"}, {"S(i,1,2,i)", "S(k,1,2,i)"},
            {"S(i,i,2,i)", "S(k,k,2,k)"}, {"S(i,1,2,S(i,1,2,i))", "S(i,1,2,S(k,1,2,i))"}, {"f(a)", "f(a,a)"}, {"f(a)", "g(a)"},
            {"S(i,1,2,k)", "S(k,1,2,k)"}, {"S(i,1,2,S(k,1,2,ik))", "S(i,1,2,S(k,1,2,ki))"}, {"a!", "-a"}, {"a", "a+a"}, {"f(a)", "fa"},
            {"S(i,1,2,i)", "f(1,2,i)"}, {"a=b", "a<b"}, {"a^b", "a_b"}};
        for (String[] row : unlike) {
            Kit.due(row[0] + " is unlike " + row[1], Kit.kiln(row[0], row[1]).areAlike(0, 1), false);
            Kit.due(row[1] + " is unlike " + row[0], Kit.kiln(row[1], row[0]).areAlike(0, 1), false);
        }
    }

    private static void found(Sentences sentences) {
        sentences.says("Names", "A tree is found at each node");
        Object[][] rows = {{"a", "a", 1}, {"a", "b", 0}, {"a+a", "a", 2}, {"aaa", "aa", 1}, {"a", "a+a", 0}, {"f(f(f(a)))", "f(a)", 1},
            {"S(i,1,2,i)+i", "i", 2}, {"S(i,1,2,i+1)", "i+1", 1}, {"S(i,1,2,i+1)", "k+1", 0}, {"S(i,1,2,i)", "S(k,1,2,k)", 1},
            {"S(i,1,2,i)+S(j,1,2,j)", "S(k,1,2,k)", 2}, {"S(i,1,2,S(j,1,i,ij))", "S(k,1,i,ik)", 1},
            {"S(i,1,2,S(j,1,i,ij))", "S(i,1,i,ii)", 0}, {"S(i,1,2,S(i,1,2,i))", "S(k,1,2,k)", 1}, {"S(i,1,2,S(i,i,2,i))", "S(k,i,2,k)", 1},
            {"?+?", "", 2}, {"7+07", "7", 2}, {"S(i,i,i,i)", "i", 3}, {"a+b+c", "a+b", 1}, {"a+(b+c)", "b+c", 1}, {"a+b+c", "b+c", 0}};
        for (Object[] row : rows) {
            Kit.due(row[1] + " in " + row[0], Kit.kiln((String) row[0], (String) row[1]).found(0, 1), row[2]);
        }
    }
}
