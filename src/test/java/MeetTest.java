import java.util.NoSuchElementException;

/** Calls in which several sentences of the document meet. What is due was worked out by hand. */
public final class MeetTest {
    private static final Class<IndexOutOfBoundsException> INDEX = IndexOutOfBoundsException.class;
    private static final Class<IllegalArgumentException> ARGUMENT = IllegalArgumentException.class;
    private static final Class<IllegalStateException> STATE = IllegalStateException.class;
    private static final Class<NoSuchElementException> NO_SUCH = NoSuchElementException.class;
    private static final Class<UnsupportedOperationException> UNSUPPORTED = UnsupportedOperationException.class;

    public static void main(String[] args) {
        caretBehindEditsElsewhere();
        caretBehindRefusedEdits();
        caretOnAnotherNode();
        caretThatWasLost();
        undoBehindRefusedCalls();
        undoBehindUndo();
        undoLeavesSignsAndWords();
        undoOfFormulasThatCameLater();
        intoItself();
        intoItselfWithRenaming();
        intoItselfRefused();
        heardAndTyped();
        barsInOtherBrackets();
        faultsInOtherBrackets();
        openBracketsAtTheEnd();
        fullEngine();
        signsBetweenCalls();
        boxesOfHeardBrackets();
        Kit.end("MeetTest");
    }

    private static void shows(String what, FormulaKiln kiln, int formula, String due) {
        Kit.due(what, Kit.text(kiln, formula), due);
        Kit.due(what + ", and is true", kiln.isTrue(), true);
    }

    /** Takes out at the caret, so that the hole shows where it is. */
    private static void caretIs(String what, FormulaKiln kiln, int formula, String due) {
        kiln.take();
        shows(what, kiln, formula, due);
    }

    private static void caretBehindEditsElsewhere() {
        FormulaKiln kiln = Kit.kiln("a+b*c", "0+S(i,1,2,i*x)", "y", "2*3");
        kiln.caret(0, 3);
        kiln.step(1, 'z');
        kiln.rename(1, 0, 'k');
        kiln.set(1, 'x', 2);
        kiln.step(3, 'c');
        Kit.due("the caret is at b still", kiln.move('r'), 4);
        kiln.caret(3, 0);
        kiln.caret(0, 3);
        caretIs("taken at b", kiln, 0, "a+?*c");
        // The root of another formula has the same number, and is gone, too.
        FormulaKiln same = Kit.kiln("a*b", "c+0");
        same.caret(0, 2);
        same.step(1, 'z');
        caretIs("number 2 is there, though not in the other formula", same, 0, "a*?");
        same.caret(1, 0);
        same.set(0, 'a', 1);
        caretIs("the caret is in the formula that was put", same, 1, "?");
        shows("which stays as it is put", same, 0, "c*?");
    }

    private static void caretBehindRefusedEdits() {
        FormulaKiln kiln = Kit.kiln("S(i,1,2,i*x)", "i", "x=y", "(" + "+".repeat(24) + ")*(a+b)");
        kiln.caret(0, 5);
        Kit.fails("rename", UNSUPPORTED, () -> kiln.rename(0, 0, 'x'));
        Kit.fails("step", NO_SUCH, () -> kiln.step(0, 'z'));
        Kit.fails("step that is too long", UNSUPPORTED, () -> kiln.step(3, 'd'));
        Kit.fails("caret", INDEX, () -> kiln.caret(0, 6));
        Kit.fails("caret elsewhere", INDEX, () -> kiln.caret(2, 3));
        Kit.fails("caret in no formula", INDEX, () -> kiln.caret(4, 0));
        Kit.fails("move to no part", NO_SUCH, () -> kiln.move('d'));
        Kit.fails("move beyond the last part", NO_SUCH, () -> kiln.move('r'));
        Kit.fails("move in no way", ARGUMENT, () -> kiln.move('U'));
        Kit.fails("undo of no edit", NO_SUCH, kiln::undo);
        Kit.due("a letter that is not there", kiln.set(0, 'z', 1), 0);
        Kit.due("the same letter", kiln.rename(0, 0, 'i'), 0);
        Kit.type(kiln, ")");
        Kit.fails("put with a fault", UNSUPPORTED, kiln::put);
        kiln.wipe();
        caretIs("the caret is at x still", kiln, 0, "S(i,1,2,i*?)");
        Kit.due("this was the only edit", kiln.undo(), 0);
        Kit.fails("no other edit", NO_SUCH, kiln::undo);
    }

    private static void caretOnAnotherNode() {
        // 0 + 1 * 2 1 3 a 4 b becomes 0 + 1 a 2 b.
        FormulaKiln kiln = Kit.kiln("1*a+b");
        kiln.caret(0, 2);
        kiln.step(0, 'o');
        Kit.due("number 2 is a part of the root now", kiln.move('u'), 0);
        Kit.due("and this one its first part", kiln.move('d'), 1);
        kiln.move('r');
        caretIs("the caret is at b", kiln, 0, "a+?");
        // 0 . 1 a 2 + 3 b 4 c becomes 0 + 1 . 2 a 3 b 4 . 5 a 6 c.
        FormulaKiln spread = Kit.kiln("a(b+c)");
        spread.caret(0, 4);
        spread.step(0, 'd');
        Kit.due("number 4 is a product now", spread.caret(0, 4), 3);
        Kit.due("with parts", spread.move('d'), 5);
        FormulaKiln grown = Kit.kiln("x+y", "a*b");
        grown.caret(0, 1);
        grown.set(0, 'x', 1);
        Kit.due("number 1 has parts now", grown.move('d'), 2);
        grown.move('u');
        Kit.type(grown, "k=m");
        Kit.due("they are replaced, too", grown.put(), 5);
        shows("put in", grown, 0, "(k=m)+y");
        caretIs("the caret stays at the number", grown, 0, "?+y");
    }

    private static void caretThatWasLost() {
        FormulaKiln kiln = Kit.kiln("a+0", "b");
        kiln.caret(0, 2);
        kiln.step(0, 'z');
        Kit.type(kiln, ")");
        Kit.fails("nowhere, ahead of the fault", NO_SUCH, kiln::put);
        Kit.due("the sign stays", kiln.wipe(), 1);
        kiln.undo();
        Kit.fails("nowhere behind undo(), though the node is back", NO_SUCH, kiln::take);
        kiln.caret(0, 2);
        kiln.caret(1, 0);
        kiln.take();
        Kit.due("the edit of the caret's formula", kiln.undo(), 1);
        Kit.fails("nowhere behind undo() of that", NO_SUCH, () -> kiln.move('u'));
        Kit.fails("but a wrong way is told first", ARGUMENT, () -> kiln.move('v'));
        shows("nothing was taken", kiln, 0, "a+0");
    }

    private static void undoBehindRefusedCalls() {
        FormulaKiln kiln = Kit.kiln("x", "S(i,1,2,x)", "i", "a");
        for (int k = 0; k < 10; k++) {
            kiln.caret(0, 0);
            Kit.type(kiln, "" + k);
            kiln.put();
            Kit.fails("rename", UNSUPPORTED, () -> kiln.rename(1, 0, 'x'));
            Kit.fails("step", NO_SUCH, () -> kiln.step(2, 'c'));
            Kit.fails("set", INDEX, () -> kiln.set(1, 'x', 9));
            kiln.set(1, 'q', 0);
            kiln.rename(1, 0, 'i');
            Kit.type(kiln, "a,");
            Kit.fails("put", UNSUPPORTED, kiln::put);
            Kit.fails("parse", UNSUPPORTED, kiln::parse);
            kiln.wipe();
        }
        for (int k = 9; k >= 0; k--) {
            shows("as it was put", kiln, 0, "" + k);
            Kit.due("undo()", kiln.undo(), 0);
            Kit.fails("refused behind undo()", NO_SUCH, kiln::take);
        }
        shows("as it was read", kiln, 0, "x");
        Kit.fails("no more", NO_SUCH, kiln::undo);
    }

    private static void undoBehindUndo() {
        FormulaKiln kiln = Kit.kiln("0", "0");
        for (int k = 1; k <= 12; k++) {
            kiln.caret(k % 2, 0);
            Kit.type(kiln, "" + k);
            kiln.put();
        }
        Kit.due("the twelfth", kiln.undo(), 0);
        Kit.due("the eleventh", kiln.undo(), 1);
        shows("as the tenth left it", kiln, 0, "10");
        shows("as the ninth left it", kiln, 1, "9");
        kiln.caret(1, 0);
        kiln.take();
        int[] due = {1, 0, 1, 0, 1, 0, 1, 0, 1};
        for (int formula : due) {
            Kit.due("the new one, the tenth to the third", kiln.undo(), formula);
        }
        Kit.fails("the second was dropped", NO_SUCH, kiln::undo);
        shows("as the second left it", kiln, 0, "2");
        shows("as the first left it", kiln, 1, "1");
    }

    private static void undoLeavesSignsAndWords() {
        FormulaKiln kiln = Kit.kiln("a+b");
        kiln.caret(0, 1);
        Kit.type(kiln, "c");
        kiln.put();
        Kit.type(kiln, "d=");
        Kit.say(kiln, 9, 100);
        kiln.undo();
        Kit.due("what was put in is not typed again, what is typed stays", kiln.wipe(), 2);
        Kit.due("what was said stays", kiln.hear(), 1);
        shows("heard", kiln, 1, "-a");
        shows("undone", kiln, 0, "a+b");
        Kit.fails("to hear is no edit", NO_SUCH, kiln::undo);
    }

    private static void undoOfFormulasThatCameLater() {
        FormulaKiln kiln = Kit.kiln("x");
        Kit.parse(kiln, "x*y");
        kiln.set(0, 'x', 1);
        kiln.set(1, 'y', 0);
        shows("put as it is by then", kiln, 1, "x*(x*y)");
        kiln.set(0, 'y', 1);
        shows("put as it is by then", kiln, 0, "x*(x*(x*y))");
        Kit.due("the last edit", kiln.undo(), 0);
        shows("undone", kiln, 0, "x*y");
        shows("the formula that was put stays", kiln, 1, "x*(x*y)");
        Kit.due("the edit ahead of that", kiln.undo(), 1);
        shows("undone", kiln, 1, "x*y");
        Kit.due("the first edit", kiln.undo(), 0);
        shows("undone", kiln, 0, "x");
    }

    private static void intoItself() {
        FormulaKiln kiln = Kit.kiln("x*x+i");
        Kit.due("two letters", kiln.set(0, 'x', 0), 2);
        shows("put into itself", kiln, 0, "(x*x+i)*(x*x+i)+i");
        Kit.due("four letters", kiln.free(0, 'x'), 4);
        kiln.undo();
        shows("undone at once", kiln, 0, "x*x+i");
        FormulaKiln bound = Kit.kiln("x+S(x,x,2,x)");
        Kit.due("free ones alone", bound.set(0, 'x', 0), 2);
        shows("put into itself", bound, 0, "x+S(x,x,2,x)+S(x,x+S(x,x,2,x),2,x)");
        FormulaKiln none = Kit.kiln("S(x,1,2,x)");
        Kit.due("no free one", none.set(0, 'x', 0), 0);
        Kit.fails("no edit", NO_SUCH, none::undo);
        FormulaKiln letter = Kit.kiln("x");
        Kit.due("a letter for itself", letter.set(0, 'x', 0), 1);
        Kit.due("is an edit", letter.undo(), 0);
    }

    private static void intoItselfWithRenaming() {
        FormulaKiln kiln = Kit.kiln("S(i,1,2,i*x)+i");
        Kit.due("one letter", kiln.set(0, 'x', 0), 1);
        shows("the outer one is renamed, not the one that is put", kiln, 0, "S(a,1,2,a*(S(i,1,2,i*x)+i))+i");
        kiln.undo();
        shows("undone with its name", kiln, 0, "S(i,1,2,i*x)+i");
        FormulaKiln two = Kit.kiln("S(i,1,2,S(j,1,2,ijx))+i+j");
        Kit.due("one letter", two.set(0, 'x', 0), 1);
        shows("outer ones first, each by then", two, 0, "S(a,1,2,S(b,1,2,ab(S(i,1,2,S(j,1,2,ijx))+i+j)))+i+j");
        FormulaKiln closed = Kit.kiln("S(i,1,2,i*x)");
        Kit.due("one letter", closed.set(0, 'x', 0), 1);
        shows("its i is not free, so that no name is changed", closed, 0, "S(i,1,2,i*S(i,1,2,i*x))");
        FormulaKiln from = Kit.kiln("S(i,i,2,x)");
        Kit.due("one letter", from.set(0, 'x', 0), 1);
        shows("an i ahead of the last part is free", from, 0, "S(a,i,2,S(i,i,2,x))");
    }

    private static void intoItselfRefused() {
        FormulaKiln kiln = Kit.kiln("xxxxxxxx", "xxxxxxx");
        Kit.fails("127 nodes", UNSUPPORTED, () -> kiln.set(0, 'x', 0));
        shows("as it was", kiln, 0, "xxxxxxxx");
        Kit.due("97 nodes", kiln.set(1, 'x', 1), 7);
        Kit.due("size", kiln.size(1), 97);
        Kit.due("the one edit", kiln.undo(), 1);
        Kit.fails("no more", NO_SUCH, kiln::undo);
        FormulaKiln full = Kit.kiln("S(a,1,2,xbcdefghijklmnopqrstuvwyz)a");
        Kit.fails("no letter is left", UNSUPPORTED, () -> full.set(0, 'x', 0));
        shows("as it was", full, 0, "S(a,1,2,xbcdefghijklmnopqrstuvwyz)a");
        Kit.fails("no edit", NO_SUCH, full::undo);
    }

    private static void heardAndTyped() {
        Object[][] rows = {{"a(bc)", new int[] {4, 100, 4, 101, 102}}, {"a-(b-c)", new int[] {2, 100, 2, 101, 102}},
            {"(a=b)^(c=d)", new int[] {6, 11, 100, 101, 11, 102, 103}}, {"-(-a+b)", new int[] {9, 1, 9, 100, 101}},
            {"(-a)!", new int[] {8, 9, 100}}, {"(a!)_(b!)", new int[] {7, 8, 100, 8, 101}}, {"a(--b)", new int[] {4, 100, 9, 9, 101}},
            {"1(2 3)", new int[] {4, 1001, 4, 1002, 1003}}, {"1234 5", new int[] {4, 2234, 1005}}, {"??", new int[] {4, 14, 14}},
            {"S(z,a=b,-a,(a=b)!)", new int[] {15, 125, 11, 100, 101, 9, 100, 8, 11, 100, 101}}, {"|a(|b|)|", new int[] {10, 4, 100, 10, 101}}};
        for (Object[] row : rows) {
            FormulaKiln kiln = new FormulaKiln();
            Kit.say(kiln, (int[]) row[1]);
            kiln.hear();
            shows("heard", kiln, 0, (String) row[0]);
            Kit.parse(kiln, (String) row[0]);
            Kit.due("typed " + row[0], Kit.tree(kiln, 1), Kit.tree(kiln, 0));
            Kit.due("spoken " + row[0], Kit.spoken(kiln, 1), Kit.spoken(kiln, 0));
            Kit.due("alike", kiln.areAlike(0, 1), true);
            Kit.due("boxes of " + row[0], kiln.box(1, 0, 0, 'w'), kiln.box(0, 0, 0, 'w'));
        }
    }

    private static void reads(String... pairs) {
        for (int k = 0; k < pairs.length; k += 2) {
            Kit.due("fault of " + pairs[k], Kit.fault(pairs[k]), -1);
            Kit.due("reading " + pairs[k], Kit.read(pairs[k]), pairs[k + 1]);
        }
    }

    private static void barsInOtherBrackets() {
        reads("|f(|a|)|", "|(f(|(a)))", "f(|a|)|b|", ".(f(|(a)) |(b))", "|(|a|b)|c|d|", ".(.(|(.(|(a) b)) c) |(d))",
                "|f(a)|b|c|", ".(.(|(f(a)) b) |(c))", "|f(a|b|,|c|d)|", "|(f(.(a |(b)) .(|(c) d)))", "(|a|)|b|", ".(|(a) |(b))",
                "S(k,|a|,b|c|,||d||)", "Sk(|(a) .(b |(c)) |(|(d)))", "|S(k,|a|,b|c|,d)|e", ".(|(Sk(|(a) .(b |(c)) d)) e)",
                "|a^(|b|)|", "|(^(a |(b)))", "|a_(b|c|)d|", "|(.(_(a .(b |(c))) d))", "||a|+|b||", "|(+(|(a) |(b)))",
                "||a|=|b||", "|(=(|(a) |(b)))", "|(a)(b)|", "|(.(a b))", "|f(a)(|b|)|", "|(.(f(a) |(b)))", "|a ( |b| ) |", "|(.(a |(b)))");
    }

    private static void faultsInOtherBrackets() {
        Object[][] rows = {{"f((a,b))", 4}, {"S(k,(1,2),3,4)", 6}, {"|f(a|b)|", 6}, {"(f(a)", -1}, {"f(a))", 4}, {"|(a|)|", 4}, {"(|a|))", 5},
            {"f(|a|,b|)", 8}, {"S(k,|1,2,3)", 6}, {"S(k,f(1,2,3,4),2,3)", 11}, {"f(S(k,1,2),3)", 9}, {"((a)", -1}, {"f(a=b,c=d=e)", 9},
            {"|a=b|=c=d", 7}, {"(a=b)=c)", 7}, {"|a=(b=c)=d|", 8}, {"S(k,1,2,3))", 10}, {"f (a,b)", 4}, {"a_(b_c_d)", 6}};
        for (Object[] row : rows) {
            Kit.due("fault of " + row[0], Kit.fault((String) row[0]), row[1]);
        }
    }

    private static void openBracketsAtTheEnd() {
        reads("f(S(k,|(a+", "f(Sk(|(+(a ?)) ? ?))", "S(k,f(a,S(j", "Sk(f(a Sj(? ? ?)) ? ?)", "a_(b=", "_(a =(b ?))", "2^f(-", "^(2 f(~(?)))",
                "(a_|b", "_(a |(b))", "|a(|b|", "|(.(a |(b)))", "|a|b|", ".(.(|(a) b) |(?))", "S(k,S(j,1,2,3),4", "Sk(Sj(1 2 3) 4 ?)",
                "S(k,1,2,f(k", "Sk(1 2 f(k))", "(((", "?", "-(-(", "~(~(?))", "f(a,f(b,", "f(a f(b ?))", "S(k , ( ", "Sk(? ? ?)");
        FormulaKiln kiln = Kit.kiln("S(k,1,2,(k+S(k");
        Kit.due("bound by the outer one", kiln.binder(0, 4), 0);
        Kit.fails("a hole is no letter", UNSUPPORTED, () -> kiln.binder(0, 8));
        Kit.due("free k", kiln.free(0, 'k'), 0);
        shows("written whole", kiln, 0, "S(k,1,2,k+S(k,?,?,?))");
    }

    private static void fullEngine() {
        FormulaKiln kiln = Kit.kiln("a+0", "b", "c", "d", "e", "i", "j");
        Kit.say(kiln, 9, 123);
        kiln.hear();
        Kit.type(kiln, "m");
        Kit.say(kiln, 14);
        Kit.fails("parse() of a ninth", STATE, kiln::parse);
        Kit.fails("hear() of a ninth", STATE, kiln::hear);
        kiln.caret(0, 1);
        Kit.due("but the signs can be put in", kiln.put(), 3);
        shows("put in", kiln, 0, "m+0");
        kiln.step(0, 'z');
        Kit.due("and edits be undone", kiln.undo() + kiln.undo(), 0);
        shows("undone", kiln, 0, "a+0");
        Kit.due("the word is still said", kiln.hush(), 1);
        Kit.due("mean size", kiln.meanSize(), (3 + 6 + 2) / 8.0);
    }

    private static void signsBetweenCalls() {
        FormulaKiln kiln = new FormulaKiln();
        Kit.type(kiln, "S(k");
        Kit.due("what is missing at the end may be typed yet", kiln.fault(), -1);
        Kit.type(kiln, ",1");
        Kit.due("no fault", kiln.fault(), -1);
        Kit.type(kiln, ")");
        Kit.due("the end is too early", kiln.fault(), 5);
        Kit.fails("parse()", UNSUPPORTED, kiln::parse);
        Kit.type(kiln, ",2");
        Kit.due("signs behind do not mend it", kiln.fault(), 5);
        Kit.due("wipe()", kiln.wipe(), 8);
        Kit.say(kiln, 16, 100);
        Kit.type(kiln, "b");
        Kit.due("signs and words do not meet", kiln.hear() + kiln.parse(), 1);
        shows("heard", kiln, 0, "f(a)");
        shows("read", kiln, 1, "b");
    }

    private static void boxesOfHeardBrackets() {
        FormulaKiln kiln = new FormulaKiln();
        Kit.say(kiln, 10, 4, 100, 10, 101);
        kiln.hear();
        // a is 8 wide; |b| 12, and 20 in brackets; the outer '|' has 4 more.
        Kit.due("width with brackets that only '|' asks for", kiln.box(0, 0, 0, 'w'), 32);
        Kit.due("above: 8, 1 for '|', 1 for brackets, 1 for '|'", kiln.box(0, 0, 0, 'a'), 11);
        Kit.due("below", kiln.box(0, 0, 0, 'b'), 5);
        Kit.due("the part itself has none", kiln.box(0, 0, 3, 'w'), 12);
        kiln.caret(0, 0);
        Kit.type(kiln, "a|b|");
        kiln.put();
        Kit.due("without '|' around it needs no brackets", kiln.box(0, 0, 0, 'w'), 20);
        Kit.due("one line, wide or not", kiln.lines(0, 32), 1);
        shows("written", kiln, 0, "a|b|");
    }
}
