import java.io.IOException;
import java.util.NoSuchElementException;

/** A test for each sentence of the 36 promises: what is returned, each range, and each "Throws". */
public final class PromiseEdgeTest {
    private static final Class<IndexOutOfBoundsException> INDEX = IndexOutOfBoundsException.class;
    private static final Class<IllegalArgumentException> ARGUMENT = IllegalArgumentException.class;
    private static final Class<IllegalStateException> STATE = IllegalStateException.class;
    private static final Class<NoSuchElementException> NO_SUCH = NoSuchElementException.class;
    private static final Class<UnsupportedOperationException> UNSUPPORTED = UnsupportedOperationException.class;
    private static final Class<ArithmeticException> ARITHMETIC = ArithmeticException.class;
    private static final String NODES_99 = "+".repeat(49);
    private static final int[] FAR = {-1, -2, 99, 100, 128, 256, 65536, Integer.MIN_VALUE, Integer.MAX_VALUE};

    private static Sentences sentences;

    private interface Ask {
        Object of(FormulaKiln kiln, int number);
    }

    public static void main(String[] args) throws IOException {
        sentences = Sentences.ofPromises();
        newObject();
        type();
        wipe();
        fault();
        parse();
        size();
        kind();
        value();
        parts();
        part();
        length();
        sign();
        box();
        boxArguments();
        lines();
        caret();
        move();
        put();
        take();
        undo();
        binder();
        free();
        rename();
        set();
        areAlike();
        found();
        unlike();
        step();
        words();
        word();
        say();
        hear();
        hush();
        holeShare();
        meanSize();
        checksum();
        isTrue();
        sentences.end();
        lastCall();
        Kit.end("PromiseEdgeTest");
    }

    private static void says(int promise, String begin) {
        sentences.says("" + promise, begin);
    }

    private static boolean isIndexFault(Ask ask, FormulaKiln kiln, int number) {
        try {
            ask.of(kiln, number);
            return false;
        } catch (IndexOutOfBoundsException e) {
            return true;
        } catch (NoSuchElementException | UnsupportedOperationException e) {
            return false;
        }
    }

    private static FormulaKiln many(int formulas, String signs) {
        String[] rows = new String[formulas];
        java.util.Arrays.fill(rows, signs);
        return Kit.kiln(rows);
    }

    /** A formula's number is one from 0 to how many there are, less one. */
    private static void formulas(int promise, String argument, Ask ask) {
        for (int count : new int[] {0, 1, 2, 7, 8}) {
            says(promise, "- `" + argument + "`");
            Kit.due("formulas", many(count, "a+S(x,1,2,x)").checksum() != 0, true);
            for (int formula = 0; formula < count; formula++) {
                Kit.due("no formula " + formula + " of " + count,
                        isIndexFault(ask, many(count, "a+S(x,1,2,x)"), formula), false);
            }
            says(promise, "Throws `IndexOutOfBoundsException`");
            FormulaKiln kiln = many(count, "a+S(x,1,2,x)");
            for (int formula = count; formula < 10; formula++) {
                int none = formula;
                Kit.fails("formula " + none + " of " + count, INDEX, () -> ask.of(kiln, none));
            }
            for (int none : FAR) {
                Kit.fails("formula " + none + " of " + count, INDEX, () -> ask.of(kiln, none));
            }
        }
    }

    /** A node is one from 0 to the size, less one; the node of a formula that is longer is none. */
    private static void nodes(int promise, Ask ask) {
        for (String signs : new String[] {"a", "ab", "S(i,1,2,i)", NODES_99}) {
            FormulaKiln kiln = Kit.kiln(signs, NODES_99);
            int size = kiln.size(0);
            says(promise, "- `node`");
            for (int node = 0; node < size; node++) {
                Kit.due("no node " + node + " of " + size, isIndexFault(ask, kiln, node), false);
            }
            says(promise, "Throws `IndexOutOfBoundsException`");
            Kit.fails("node " + size + " of " + size, INDEX, () -> ask.of(kiln, size));
            for (int none : FAR) {
                Kit.fails("node " + none + " of " + size, INDEX, () -> ask.of(kiln, none));
            }
        }
    }

    private interface Letter {
        Object of(char letter);
    }

    private static void smallLetters(int promise, Letter call) {
        says(promise, "- `letter`");
        for (char letter = 'a'; letter <= 'z'; letter++) {
            Kit.due("letter " + letter, call.of(letter), 0);
        }
        says(promise, "Throws `IllegalArgumentException`");
        for (char none : new char[] {'a' - 1, 'z' + 1, 'A', 'Z', 'S', '0', ' ', 0, (char) ('a' + 256), Character.MAX_VALUE}) {
            Kit.fails("letter " + (int) none, ARGUMENT, () -> call.of(none));
        }
    }

    private static void newObject() {
        says(1, "Creates an engine without formulas");
        FormulaKiln kiln = new FormulaKiln();
        Kit.fails("size(0)", INDEX, () -> kiln.size(0));
        Kit.fails("meanSize()", ARITHMETIC, kiln::meanSize);
        Kit.due("checksum()", kiln.checksum(), 7L);
        Kit.due("wipe()", kiln.wipe(), 0);
        Kit.due("fault()", kiln.fault(), -1);
        Kit.due("hush()", kiln.hush(), 0);
        Kit.fails("hear()", UNSUPPORTED, kiln::hear);
        Kit.fails("put()", NO_SUCH, kiln::put);
        Kit.fails("take()", NO_SUCH, kiln::take);
        Kit.fails("move('d')", NO_SUCH, () -> kiln.move('d'));
        Kit.fails("undo()", NO_SUCH, kiln::undo);
        FormulaKiln used = Kit.kiln("a+b", "c");
        used.caret(0, 1);
        used.take();
        used.type('x');
        used.say(14);
        FormulaKiln other = new FormulaKiln();
        Kit.due("no object tells of another one", other.checksum() + other.wipe() + other.hush(), 7L);
        Kit.fails("undo() of another one's edit", NO_SUCH, other::undo);
        Kit.due("the first of its own", Kit.parse(other, "z"), 0);
    }

    private static void type() {
        FormulaKiln kiln = new FormulaKiln();
        says(2, "Types a sign");
        Kit.due("a sign", kiln.type('x'), 1);
        Kit.due("it is read", Kit.tree(kiln, kiln.parse(), 0), "x");
        says(2, "Returns how many");
        for (int k = 1; k <= 60; k++) {
            Kit.due("sign " + k, kiln.type('-'), k);
        }
        says(2, "Throws `IllegalStateException`");
        Kit.fails("the 61st", STATE, () -> kiln.type('-'));
        Kit.due("60 stay", kiln.wipe(), 60);
        Kit.due("there is room again", kiln.type('-'), 1);
        says(2, "- `sign`");
        for (char sign : "09az+-*/^_!()|=<>,?S ".toCharArray()) {
            Kit.due("sign " + sign, new FormulaKiln().type(sign), 1);
        }
        says(2, "Throws `IllegalArgumentException`");
        for (int none : new int[] {0, 9, 10, 31, '"', '#', '$', '%', '&', '\'', '.', '/' + 256, ':', ';', '@', 'A', 'R', 'T', 'Z', '[', '\\', ']',
            '`', '{', '}', '~', 127, 128, 160, 'a' + 256, 'S' + 256, ' ' + 256, 65535}) {
            Kit.fails("sign " + none, ARGUMENT, () -> kiln.type((char) none));
        }
        Kit.due("none was typed", kiln.type('a'), 2);
    }

    private static void wipe() {
        says(3, "Wipes what is typed");
        FormulaKiln kiln = new FormulaKiln();
        Kit.type(kiln, "a)");
        kiln.wipe();
        Kit.due("no fault is left", kiln.fault(), -1);
        Kit.due("a hole is left to be read", Kit.tree(kiln, kiln.parse(), 0), "?");
        says(3, "Returns how many");
        for (int count : new int[] {0, 1, 2, 59, 60}) {
            Kit.type(kiln, " ".repeat(count));
            Kit.due("wipe() of " + count, kiln.wipe(), count);
            Kit.due("wipe() of none", kiln.wipe(), 0);
        }
    }

    private static void fault() {
        says(4, "Returns the fault");
        Kit.due("fault of a+b)c", Kit.fault("a+b)c"), 3);
        Kit.due("fault of S", Kit.fault("S"), 1);
        says(4, "Returns the place");
        Kit.due("fault of )", Kit.fault(")"), 0);
        Kit.due("fault of nothing", Kit.fault(""), -1);
        Kit.due("fault of a+b", Kit.fault("a+b"), -1);
        Kit.due("the last place", Kit.fault("a".repeat(59) + ","), 59);
        Kit.due("behind the last place", Kit.fault("a".repeat(59) + "S"), 60);
    }

    private static void parse() {
        says(5, "Reads what is typed");
        FormulaKiln kiln = new FormulaKiln();
        Kit.type(kiln, "a+b");
        kiln.parse();
        Kit.due("read", Kit.text(kiln, 0), "a+b");
        Kit.due("wiped", kiln.wipe(), 0);
        says(5, "Returns its number");
        for (int number = 1; number < 8; number++) {
            Kit.due("parse()", Kit.parse(kiln, "" + number), number);
        }
        says(5, "Throws `IllegalStateException`");
        Kit.type(kiln, "a");
        Kit.fails("there are 8", STATE, kiln::parse);
        FormulaKiln large = new FormulaKiln();
        Kit.type(large, "-" + NODES_99);
        Kit.fails("100 nodes", STATE, large::parse);
        Kit.due("the signs stay", large.wipe(), 50);
        Kit.due("99 nodes", Kit.parse(large, NODES_99), 0);
        Kit.type(large, "-".repeat(60));
        Kit.due("61 nodes", large.size(large.parse()), 61);
        says(5, "Throws `UnsupportedOperationException`");
        Kit.type(large, "a)");
        Kit.fails("a fault", UNSUPPORTED, large::parse);
        Kit.due("the signs stay", large.wipe(), 2);
        Kit.type(large, "S");
        Kit.fails("a '(' that is missing at the end", UNSUPPORTED, large::parse);
        Kit.due("no formula is new", large.meanSize(), 80.0);
    }

    private static void size() {
        formulas(6, "formula", (kiln, formula) -> kiln.size(formula));
        says(6, "Returns how many nodes");
        Kit.due("size of a+b", Kit.kiln("a+b").size(0), 3);
        says(6, "Returns how many.");
        Kit.due("size of a hole", Kit.kiln("").size(0), 1);
        Kit.due("size of brackets", Kit.kiln("((a))").size(0), 1);
        Kit.due("size of 'S'", Kit.kiln("S(i").size(0), 4);
        Kit.due("size of 99", Kit.kiln(NODES_99).size(0), 99);
    }

    private static void kind() {
        formulas(7, "formula", (kiln, formula) -> kiln.kind(formula, 0));
        nodes(7, (kiln, node) -> kiln.kind(0, node));
        FormulaKiln kiln = Kit.kiln("-f(7,x)_2!=ab^?", "|a|*b/c");
        String kinds = "=~!_fnvn.v^v?";
        says(7, "Returns the kind.");
        for (int node = 0; node < kinds.length(); node++) {
            Kit.due("kind of " + node, kiln.kind(0, node), kinds.charAt(node));
        }
        Kit.due("kinds of the other one", "" + kiln.kind(1, 0) + kiln.kind(1, 1) + kiln.kind(1, 2) + kiln.kind(1, 5), "/*|v");
        says(7, "Returns the kind of a node");
        Kit.due("root", kiln.kind(0, 0), '=');
    }

    private static void value() {
        formulas(8, "formula", (kiln, formula) -> kiln.value(formula, 1));
        nodes(8, (kiln, node) -> kiln.value(0, node));
        FormulaKiln kiln = Kit.kiln("S(k,9999,z,a)+0");
        says(8, "Returns what a node tells");
        Kit.due("the letter of 'S'", kiln.value(0, 1), 107);
        Kit.due("a number", kiln.value(0, 2), 9999);
        Kit.due("a letter", kiln.value(0, 3), 122);
        says(8, "Returns the number");
        Kit.due("a letter", kiln.value(0, 4), 97);
        Kit.due("a 0", kiln.value(0, 5), 0);
        Kit.due("0007", Kit.kiln("0007").value(0, 0), 7);
        says(8, "Throws `NoSuchElementException`");
        for (String signs : new String[] {"?", "a+b", "a-b", "a*b", "a/b", "a^b", "a_b", "a!", "|a|", "a=b", "a<b", "a>b", "ab", "-a", "f(a)",
            "g(1)", "h(a,b,c)"}) {
            Kit.fails("value of the root of " + signs, NO_SUCH, () -> Kit.kiln(signs).value(0, 0));
        }
    }

    private static void parts() {
        formulas(9, "formula", (kiln, formula) -> kiln.parts(formula, 0));
        nodes(9, (kiln, node) -> kiln.parts(0, node));
        says(9, "Returns how many parts");
        Object[][] rows = {{"a", 0}, {"7", 0}, {"?", 0}, {"-a", 1}, {"a!", 1}, {"|a|", 1}, {"f(a)", 1}, {"f(a,b)", 2}, {"g(a,b,c)", 3}, {"h()", 1},
            {"a+b", 2}, {"ab", 2}, {"a_b", 2}, {"a=b", 2}, {"S(i", 3}};
        for (Object[] row : rows) {
            Kit.due("parts of " + row[0], Kit.kiln((String) row[0]).parts(0, 0), row[1]);
        }
        says(9, "Returns how many.");
        Kit.due("parts of a node that is no root", Kit.kiln("a+f(b,c,d)").parts(0, 2), 3);
    }

    private static void part() {
        formulas(10, "formula", (kiln, formula) -> kiln.part(formula, 0, 1));
        nodes(10, (kiln, node) -> kiln.parts(0, node) == 0 ? 0 : kiln.part(0, node, 0));
        FormulaKiln kiln = Kit.kiln("S(i,a+b,-c,d!)");
        says(10, "Returns a part of a node");
        Kit.due("from", kiln.part(0, 0, 0), 1);
        says(10, "- `index`");
        Kit.due("to", kiln.part(0, 0, 1), 4);
        Kit.due("what is summed", kiln.part(0, 0, 2), 6);
        says(10, "Returns the node");
        Kit.due("right side", kiln.part(0, 1, 1), 3);
        Kit.due("inner part", kiln.part(0, 6, 0), 7);
        says(10, "Throws `IndexOutOfBoundsException`");
        int[][] none = {{0, 3}, {0, -1}, {1, 2}, {4, 1}, {2, 0}, {3, 0}, {7, 0}, {8, 0}, {0, Integer.MAX_VALUE}, {0, Integer.MIN_VALUE}, {0, 99}};
        for (int[] row : none) {
            Kit.fails("part " + row[1] + " of " + row[0], INDEX, () -> kiln.part(0, row[0], row[1]));
        }
        Kit.fails("part of no node", INDEX, () -> kiln.part(0, 8, 0));
        Kit.fails("part of no formula", INDEX, () -> kiln.part(1, 0, 0));
    }

    private static void length() {
        formulas(11, "formula", (kiln, formula) -> kiln.length(formula));
        says(11, "Returns how many signs");
        Kit.due("length of ((a))+b", Kit.kiln("((a))+b").length(0), 3);
        says(11, "Returns how many.");
        Kit.due("length of nothing", Kit.kiln("").length(0), 1);
        Kit.due("length of 1 2", Kit.kiln("1 2").length(0), 3);
        Kit.due("length of S(i", Kit.kiln("S(i").length(0), 10);
        Kit.due("length of 0007", Kit.kiln("0007").length(0), 1);
        Kit.due("length of 99 nodes", Kit.kiln(NODES_99).length(0), 99);
        FormulaKiln nested = new FormulaKiln();
        for (int k = 0; k < 49; k++) {
            nested.say(7);
        }
        for (int k = 0; k < 50; k++) {
            nested.say(1000);
        }
        nested.hear();
        Kit.due("50 numbers, 49 '_', 48 pairs of brackets", nested.length(0), 195);
        Kit.due("the last sign", nested.sign(0, 194), '0');
    }

    private static void sign() {
        formulas(12, "formula", (kiln, formula) -> kiln.sign(formula, 0));
        FormulaKiln kiln = Kit.kiln("(a+ 1)2", "z");
        String written = "(a+1)2";
        says(12, "Returns a sign");
        Kit.due("the first sign", kiln.sign(0, 0), '(');
        says(12, "- `place`");
        for (int place = 0; place < written.length(); place++) {
            Kit.due("sign " + place, kiln.sign(0, place), written.charAt(place));
        }
        says(12, "Returns the sign");
        Kit.due("a blank", Kit.kiln("1 2").sign(0, 1), ' ');
        Kit.due("the other one's", kiln.sign(1, 0), 'z');
        says(12, "Throws `IndexOutOfBoundsException`");
        for (int none : new int[] {6, 7, -1, 1000, 999, 60, Integer.MIN_VALUE, Integer.MAX_VALUE}) {
            Kit.fails("place " + none, INDEX, () -> kiln.sign(0, none));
        }
        Kit.fails("place 1 of one sign", INDEX, () -> kiln.sign(1, 1));
    }

    private static void box() {
        formulas(13, "formula", (kiln, formula) -> kiln.box(formula, 0, 0, 'w'));
        nodes(13, (kiln, node) -> kiln.box(0, 3, node, 's'));
        FormulaKiln kiln = Kit.kiln("(a+b)^2");
        says(13, "Returns a number of the box");
        Kit.due("width in the style 0", kiln.box(0, 0, 0, 'w'), 46);
        Kit.due("width in the style 3", kiln.box(0, 3, 0, 'w'), 24);
        Kit.due("width of a part in the style 0", kiln.box(0, 0, 4, 'w'), 6);
        Kit.due("width of a part in the style 3", kiln.box(0, 3, 4, 'w'), 4);
        says(13, "Returns the number, of the node without brackets");
        Kit.due("width", kiln.box(0, 0, 1, 'w'), 32);
        Kit.due("above", kiln.box(0, 0, 1, 'a'), 8);
        Kit.due("below", kiln.box(0, 0, 1, 'b'), 2);
    }

    private static void boxArguments() {
        FormulaKiln kiln = Kit.kiln("(a+b)^2");
        says(13, "- `style`");
        String[] styles = {"00002", "11112", "22223", "33333"};
        for (int style = 0; style < 4; style++) {
            for (int node = 0; node < 5; node++) {
                Kit.due("style", kiln.box(0, style, node, 's'), styles[style].charAt(node) - '0');
            }
        }
        says(13, "- `what`");
        Kit.due("'w'", kiln.box(0, 2, 0, 'w'), 30);
        Kit.due("'a'", kiln.box(0, 2, 0, 'a'), 8);
        Kit.due("'b'", kiln.box(0, 1, 0, 'b'), 3);
        Kit.due("'s'", kiln.box(0, 2, 4, 's'), 3);
        says(13, "Throws `IllegalArgumentException`");
        for (int none : new int[] {-1, 4, 5, 256, Integer.MIN_VALUE, Integer.MAX_VALUE}) {
            Kit.fails("style " + none, ARGUMENT, () -> kiln.box(0, none, 0, 'w'));
        }
        for (int none = 0; none < 400; none++) {
            char what = (char) none;
            if ("wabs".indexOf(what) < 0) {
                Kit.fails("letter " + none, ARGUMENT, () -> kiln.box(0, 0, 0, what));
            }
        }
    }

    private static void lines() {
        formulas(14, "formula", (kiln, formula) -> kiln.lines(formula, 32));
        FormulaKiln kiln = Kit.kiln("a+b+c");
        says(14, "Returns on how many lines");
        Kit.due("at 56", kiln.lines(0, 56), 1);
        Kit.due("at 55", kiln.lines(0, 55), 2);
        says(14, "Returns how many");
        Kit.due("at 40", kiln.lines(0, 40), 2);
        says(14, "- `width`");
        Kit.due("at 32", kiln.lines(0, 32), 2);
        Kit.due("at 9999", kiln.lines(0, 9999), 1);
        says(14, "Throws `IllegalArgumentException`");
        for (int none : new int[] {31, 10000, 0, -1, -32, Integer.MIN_VALUE, Integer.MAX_VALUE}) {
            Kit.fails("at " + none, ARGUMENT, () -> kiln.lines(0, none));
        }
    }

    private static void caret() {
        formulas(15, "formula", (kiln, formula) -> kiln.caret(formula, 0));
        nodes(15, (kiln, node) -> kiln.caret(0, node));
        says(15, "Puts the caret to a node");
        FormulaKiln kiln = Kit.kiln("a+b*c", "d-e");
        kiln.caret(0, 2);
        Kit.due("down from there", kiln.move('d'), 3);
        kiln.caret(1, 1);
        kiln.take();
        Kit.due("the other formula", Kit.text(kiln, 1), "?-e");
        Kit.due("the first one stays", Kit.text(kiln, 0), "a+b*c");
        says(15, "Returns how many nodes");
        int[] due = {5, 1, 3, 1, 1};
        for (int node = 0; node < due.length; node++) {
            Kit.due("caret at " + node, kiln.caret(0, node), due[node]);
        }
        Kit.due("caret at 99 nodes", Kit.kiln(NODES_99).caret(0, 0), 99);
    }

    private static void moves(FormulaKiln kiln, String ways, int... due) {
        for (int k = 0; k < due.length; k++) {
            char way = ways.charAt(k);
            if (due[k] < 0) {
                Kit.fails("move('" + way + "')", NO_SUCH, () -> kiln.move(way));
            } else {
                Kit.due("move('" + way + "')", kiln.move(way), due[k]);
            }
        }
    }

    private static void move() {
        FormulaKiln kiln = Kit.kiln("S(i,a+b,-c,d)");
        // 0 S 1 + 2 a 3 b 4 - 5 c 6 d
        says(16, "Moves the caret");
        kiln.caret(0, 0);
        moves(kiln, "drrll", 1, 4, 6, 4, 1);
        says(16, "- `way`");
        moves(kiln, "druurdu", 2, 3, 1, 0, -1, 1, 0);
        moves(kiln, "drdurlru", 1, 4, 5, 4, 6, 4, 6, 0);
        says(16, "Returns the node");
        moves(kiln, "dd", 1, 2);
        says(16, "Throws `NoSuchElementException`");
        moves(kiln, "dlruru", -1, -1, 3, 1, 4, 0);
        moves(kiln, "ulrd", -1, -1, -1, 1);
        moves(kiln, "lrrrd", -1, 4, 6, -1, -1);
        Kit.due("the caret is where it was", kiln.move('u'), 0);
        FormulaKiln single = Kit.kiln("-a");
        single.caret(0, 1);
        moves(single, "lrdu", -1, -1, -1, 0);
        moves(new FormulaKiln(), "udlr", -1, -1, -1, -1);
        moves(Kit.kiln("a+b"), "udlr", -1, -1, -1, -1);
        says(16, "Throws `IllegalArgumentException`");
        for (int none = 0; none < 400; none++) {
            char way = (char) none;
            if ("udlr".indexOf(way) < 0) {
                Kit.fails("way " + none, ARGUMENT, () -> kiln.move(way));
            }
        }
        Kit.fails("no such way from nowhere", ARGUMENT, () -> new FormulaKiln().move('U'));
    }

    private static void put() {
        FormulaKiln kiln = Kit.kiln("a+b*c");
        says(17, "Puts in what is typed");
        kiln.caret(0, 2);
        Kit.type(kiln, "d=e");
        int nodes = kiln.put();
        Kit.due("put in", Kit.text(kiln, 0), "a+(d=e)");
        Kit.due("wiped", kiln.wipe(), 0);
        says(17, "Returns how many nodes");
        Kit.due("the whole formula's", nodes, 5);
        kiln.caret(0, 4);
        Kit.type(kiln, "f(1,2");
        Kit.due("put()", kiln.put(), 7);
        Kit.due("put() of nothing", kiln.put(), 5);
        says(17, "Throws `UnsupportedOperationException`");
        for (String wrong : new String[] {")", "a=b=c", "S", "S(1", "x_1_2"}) {
            Kit.type(kiln, wrong);
            Kit.fails("put() of " + wrong, UNSUPPORTED, kiln::put);
            Kit.due("the signs stay", kiln.wipe(), wrong.length());
        }
        // 4 nodes stay.
        Kit.type(kiln, "+".repeat(48));
        Kit.fails("4 + 97 nodes", UNSUPPORTED, kiln::put);
        kiln.wipe();
        Kit.type(kiln, "-" + "+".repeat(47));
        Kit.fails("4 + 96 nodes", UNSUPPORTED, kiln::put);
        kiln.wipe();
        Kit.type(kiln, "+".repeat(47));
        Kit.due("4 + 95 nodes", kiln.put(), 99);
        kiln.caret(0, 0);
        Kit.type(kiln, "-" + NODES_99);
        Kit.fails("100 nodes at the root", UNSUPPORTED, kiln::put);
        Kit.due("the formula stays", kiln.size(0), 99);
        kiln.wipe();
        Kit.type(kiln, NODES_99);
        Kit.due("99 nodes at the root", kiln.put(), 99);
        says(17, "Throws `NoSuchElementException`");
        Kit.fails("put() without formulas", NO_SUCH, () -> new FormulaKiln().put());
        FormulaKiln nowhere = Kit.kiln("a");
        Kit.type(nowhere, "b");
        Kit.fails("put() nowhere", NO_SUCH, nowhere::put);
        Kit.due("the sign stays", nowhere.wipe(), 1);
    }

    private static void take() {
        FormulaKiln kiln = Kit.kiln("a+b*c", "d");
        says(18, "Takes out");
        kiln.caret(0, 2);
        int gone = kiln.take();
        Kit.due("taken out", Kit.text(kiln, 0), "a+?");
        Kit.due("the other one stays", Kit.text(kiln, 1), "d");
        says(18, "Returns how many nodes are gone");
        Kit.due("three, and a hole", gone, 2);
        Kit.due("a hole", kiln.take(), 0);
        kiln.caret(0, 1);
        Kit.due("a letter", kiln.take(), 0);
        kiln.caret(0, 0);
        Kit.due("the root", kiln.take(), 2);
        FormulaKiln large = Kit.kiln(NODES_99);
        large.caret(0, 0);
        Kit.due("99 nodes", large.take(), 98);
        says(18, "Throws `NoSuchElementException`");
        Kit.fails("take() without formulas", NO_SUCH, () -> new FormulaKiln().take());
        Kit.fails("take() nowhere", NO_SUCH, () -> Kit.kiln("a").take());
        kiln.undo();
        Kit.fails("take() behind undo()", NO_SUCH, kiln::take);
    }

    private static void undo() {
        FormulaKiln kiln = Kit.kiln("a", "b", "c");
        kiln.caret(2, 0);
        kiln.take();
        kiln.caret(0, 0);
        kiln.take();
        says(19, "Undoes the last edit");
        int first = kiln.undo();
        Kit.due("the first formula", Kit.text(kiln, 0), "a");
        Kit.due("the third one is edited still", Kit.text(kiln, 2), "?");
        kiln.caret(1, 0);
        int second = kiln.undo();
        Kit.due("the third formula", Kit.text(kiln, 2), "c");
        Kit.fails("the caret is nowhere, in another formula too", NO_SUCH, kiln::take);
        says(19, "Returns the formula");
        Kit.due("the last edit's", first, 0);
        Kit.due("that ahead of it", second, 2);
        says(19, "Throws `NoSuchElementException`");
        Kit.fails("there is none", NO_SUCH, kiln::undo);
        Kit.fails("there is none at first", NO_SUCH, () -> new FormulaKiln().undo());
        Kit.fails("to read is no edit", NO_SUCH, () -> Kit.kiln("a").undo());
        kiln.caret(1, 0);
        for (int k = 0; k < 11; k++) {
            kiln.take();
        }
        for (int k = 0; k < 10; k++) {
            Kit.due("undo() of 10", kiln.undo(), 1);
        }
        Kit.fails("there is none behind 10", NO_SUCH, kiln::undo);
        kiln.caret(1, 0);
        Kit.fails("a refused undo() lets the caret stay", NO_SUCH, kiln::undo);
        Kit.due("the caret", kiln.take(), 0);
    }

    private static void binder() {
        formulas(20, "formula", (kiln, formula) -> kiln.binder(formula, 1));
        nodes(20, (kiln, node) -> kiln.binder(0, node));
        FormulaKiln kiln = Kit.kiln("S(i,i,j,i+S(j,i,j,ijk))+i");
        // 0 + 1 S 2 i 3 j 4 + 5 i 6 S 7 i 8 j 9 . 10 . 11 i 12 j 13 k 14 i
        says(20, "Returns by which node");
        Kit.due("an outer 'S'", kiln.binder(0, 5), 1);
        Kit.due("an inner 'S'", kiln.binder(0, 12), 6);
        says(20, "- `node`: a letter node");
        Kit.due("through an inner one", kiln.binder(0, 11), 1);
        says(20, "Returns the node, -1 if it is free");
        for (int free : new int[] {2, 3, 8, 13, 14}) {
            Kit.due("free at " + free, kiln.binder(0, free), -1);
        }
        Kit.due("from of an inner one", kiln.binder(0, 7), 1);
        says(20, "Throws `UnsupportedOperationException`");
        for (String signs : new String[] {"7", "?", "a+b", "a*b", "ab", "-a", "a!", "|a|", "f(a)", "S(i,1,2,i)", "a=b"}) {
            Kit.fails("binder of the root of " + signs, UNSUPPORTED, () -> Kit.kiln(signs).binder(0, 0));
        }
    }

    private static void free() {
        formulas(21, "formula", (kiln, formula) -> kiln.free(formula, 'x'));
        smallLetters(21, letter -> Kit.kiln("1").free(0, letter));
        says(21, "Returns how many letter nodes");
        FormulaKiln kiln = Kit.kiln("i+S(i,i,i,i+j)+f(j)");
        Kit.due("i", kiln.free(0, 'i'), 3);
        Kit.due("j", kiln.free(0, 'j'), 2);
        says(21, "Returns how many.");
        Kit.due("an applied letter is no letter node", kiln.free(0, 'f'), 0);
        Kit.due("none", kiln.free(0, 'z'), 0);
        Kit.due("all", Kit.kiln("a".repeat(50)).free(0, 'a'), 50);
        Kit.due("the letter of an 'S' is no letter node", Kit.kiln("S(i,1,2,3)").free(0, 'i'), 0);
    }

    private static void rename() {
        formulas(22, "formula", (kiln, formula) -> kiln.rename(formula, 2, 'k'));
        nodes(22, (kiln, node) -> kiln.rename(0, node, 'k'));
        FormulaKiln kiln = Kit.kiln("S(i,i,1,i+S(i,i,2,i))", "S(i,1,2,i*k)");
        says(22, "Renames an 'S'");
        int outer = kiln.rename(0, 0, 'm');
        Kit.due("renamed", Kit.text(kiln, 0), "S(m,i,1,m+S(i,m,2,i))");
        says(22, "Returns how many letter nodes");
        Kit.due("two", outer, 2);
        Kit.due("to the letter that it has", kiln.rename(0, 0, 'm'), 0);
        Kit.due("none that is bound", Kit.kiln("S(i,i,i,1)").rename(0, 0, 'k'), 0);
        says(22, "- `node`: the node of the 'S'");
        Kit.due("an inner one", kiln.rename(0, 5, 'z'), 1);
        Kit.due("renamed", Kit.text(kiln, 0), "S(m,i,1,m+S(z,m,2,z))");
        smallLetters(22, letter -> Kit.kiln("S(i,1,2,3)").rename(0, 0, letter));
        says(22, "- `letter`: a small letter, perhaps that which it has");
        Kit.due("that which it has", kiln.rename(1, 0, 'i'), 0);
        Kit.due("as it was", Kit.text(kiln, 1), "S(i,1,2,i*k)");
        says(22, "Throws `UnsupportedOperationException`");
        Kit.fails("captured", UNSUPPORTED, () -> kiln.rename(1, 0, 'k'));
        Kit.fails("captured by an inner one", UNSUPPORTED, () -> Kit.kiln("S(i,1,2,S(k,1,2,i))").rename(0, 0, 'k'));
        for (String signs : new String[] {"i", "7", "?", "i+i", "f(i)", "-i"}) {
            Kit.fails("no 'S' in " + signs, UNSUPPORTED, () -> Kit.kiln(signs).rename(0, 0, 'i'));
        }
    }

    private static void set() {
        formulas(23, "formula", (kiln, formula) -> kiln.set(formula, 'z', 0));
        formulas(23, "other", (kiln, other) -> kiln.set(0, 'z', other));
        smallLetters(23, letter -> Kit.kiln("1").set(0, letter, 0));
        FormulaKiln kiln = Kit.kiln("x+S(x,x,1,x)", "a=b");
        says(23, "Puts a formula for a letter");
        int replaced = kiln.set(0, 'x', 1);
        Kit.due("put", Kit.text(kiln, 0), "(a=b)+S(x,a=b,1,x)");
        says(23, "Returns how many letter nodes");
        Kit.due("two", replaced, 2);
        Kit.due("none", kiln.set(0, 'x', 1), 0);
        Kit.due("in itself", kiln.set(1, 'a', 1), 1);
        Kit.due("in itself", Kit.text(kiln, 1), "(a=b)=b");
        says(23, "Throws `UnsupportedOperationException`");
        FormulaKiln large = Kit.kiln("x+x+1", NODES_99, "+".repeat(23), "-" + "+".repeat(23), "S(a,1,2,xbcdefghijklmnopqrstuvwyz)", "a");
        Kit.fails("more than 99 nodes", UNSUPPORTED, () -> large.set(0, 'x', 1));
        Kit.due("3 + 2 * 47 nodes", large.set(0, 'x', 2) + large.size(0), 99);
        large.undo();
        Kit.fails("the refused one was no edit", NO_SUCH, large::undo);
        FormulaKiln exact = Kit.kiln("xx*1", "-" + "+".repeat(23), "xx", "+".repeat(24), "-" + "+".repeat(24));
        Kit.due("3 + 2 * 48 nodes", exact.set(0, 'x', 1) + exact.size(0), 101);
        Kit.due("1 + 2 * 49 nodes", exact.set(2, 'x', 3) + exact.size(2), 101);
        FormulaKiln over = Kit.kiln("-xx*1", "-" + "+".repeat(23));
        Kit.fails("4 + 2 * 48 nodes", UNSUPPORTED, () -> over.set(0, 'x', 1));
        Kit.due("as it was", Kit.text(over, 0), "-xx*1");
        Kit.fails("no letter is left", UNSUPPORTED, () -> large.set(4, 'x', 5));
        Kit.due("the size stays", large.size(4), 52);
    }

    private static void areAlike() {
        formulas(24, "formula", (kiln, formula) -> kiln.areAlike(formula, 0));
        formulas(24, "other", (kiln, other) -> kiln.areAlike(0, other));
        FormulaKiln kiln = Kit.kiln("S(i,1,2,i)", "S(k,1,2,k)", "S(k,1,2,i)");
        says(24, "Tells whether two formulas");
        Kit.due("alike", kiln.areAlike(0, 1), true);
        says(24, "- `other`: another one, or the same");
        Kit.due("the same", kiln.areAlike(2, 2), true);
        says(24, "Returns whether they are");
        Kit.due("unlike", kiln.areAlike(0, 2), false);
        Kit.due("unlike", kiln.areAlike(2, 0), false);
    }

    private static void found() {
        formulas(25, "formula", (kiln, formula) -> kiln.found(formula, 0));
        formulas(25, "other", (kiln, other) -> kiln.found(0, other));
        FormulaKiln kiln = Kit.kiln("S(i,1,2,i+1)+(i+1)", "i+1", "a");
        says(25, "Returns at how many nodes");
        Kit.due("two", kiln.found(0, 1), 2);
        says(25, "- `other`: the one that is looked for");
        Kit.due("not the other way round", kiln.found(1, 0), 0);
        says(25, "Returns how many");
        Kit.due("none", kiln.found(0, 2), 0);
        Kit.due("itself", kiln.found(0, 0), 1);
        Kit.due("each of 50", Kit.kiln("a".repeat(50), "a").found(0, 1), 50);
    }

    private static void unlike() {
        formulas(26, "formula", (kiln, formula) -> kiln.unlike(formula));
        says(26, "Returns how many unlike trees");
        Object[][] rows = {{"a", 1}, {"?", 1}, {"a+a", 2}, {"a+b", 3}, {"aaa", 3}, {"a(aa)", 3}, {"1+01", 2}, {"(a+b)(a+b)", 4}, {"(a+b)(b+a)", 5},
            {"f(a)+f(a,a)", 4}, {"f+f(f)", 3}, {"a+97", 3}, {"ab+a*b", 5}, {"--a", 3}, {"(a+b)(c+b)", 6}, {"(a+b)(a+c)", 6}, {"-a+-b", 5}, {"-a+-a", 3}, {"f(a,b,c)+f(a,b,d)", 7},
            {"f(a,b,c)+f(a,d,c)", 7}};
        for (Object[] row : rows) {
            Kit.due("unlike trees of " + row[0], Kit.kiln((String) row[0]).unlike(0), row[1]);
        }
        says(26, "Returns how many, not up to bound names");
        Kit.due("the letters of 'S' alone", Kit.kiln("S(i,1,1,1)+S(k,1,1,1)").unlike(0), 4);
        Kit.due("alike but not the same", Kit.kiln("S(i,1,1,i)+S(k,1,1,k)").unlike(0), 6);
        Kit.due("the same", Kit.kiln("S(i,1,1,i)+S(i,1,1,i)").unlike(0), 4);
        Kit.due("a bound letter and a free one are the same", Kit.kiln("S(i,1,1,i)+i").unlike(0), 4);
    }

    private static void step() {
        formulas(27, "formula", (kiln, formula) -> kiln.step(formula, 'z'));
        says(27, "Does a step");
        FormulaKiln kiln = Kit.kiln("(a+0)*(b+0)");
        int first = kiln.step(0, 'z');
        Kit.due("one step", Kit.text(kiln, 0), "a*(b+0)");
        says(27, "Returns the node");
        Kit.due("the first node", first, 1);
        Kit.due("the next one", kiln.step(0, 'z'), 2);
        says(27, "Throws `NoSuchElementException`");
        for (char rule : "zoncd".toCharArray()) {
            Kit.fails("nowhere " + rule, NO_SUCH, () -> kiln.step(0, rule));
        }
        says(27, "- `rule`");
        Kit.due("'z'", Kit.kiln("a+0").step(0, 'z'), 0);
        Kit.due("'o'", Kit.kiln("a*1").step(0, 'o'), 0);
        Kit.due("'n'", Kit.kiln("--a").step(0, 'n'), 0);
        Kit.due("'c'", Kit.kiln("1+1").step(0, 'c'), 0);
        Kit.due("'d'", Kit.kiln("a(b+c)").step(0, 'd'), 0);
        says(27, "Throws `IllegalArgumentException`");
        for (int none = 0; none < 400; none++) {
            char rule = (char) none;
            if ("zoncd".indexOf(rule) < 0) {
                Kit.fails("rule " + none, ARGUMENT, () -> kiln.step(0, rule));
            }
        }
        says(27, "Throws `UnsupportedOperationException`");
        FormulaKiln large = Kit.kiln("(" + "+".repeat(23) + ")(1-2)", "(" + "+".repeat(23) + ")(1--2)");
        Kit.due("just 99 nodes", large.step(0, 'd') + large.size(0), 99);
        Kit.fails("just 100 nodes", UNSUPPORTED, () -> large.step(1, 'd'));
        Kit.due("as it was", large.size(1), 52);
    }

    private static void words() {
        formulas(28, "formula", (kiln, formula) -> kiln.words(formula, false) + kiln.words(formula, true));
        FormulaKiln kiln = Kit.kiln("f(g(a))", "a", "S(i,1,2,f(i))", "f(a,b,c)");
        says(28, "Returns in how many words");
        Kit.due("f(g(a))", kiln.words(0, false), 5);
        says(28, "- `isShort`");
        Kit.due("f(g(a)) in short", kiln.words(0, true), 3);
        Kit.due("S(i,1,2,f(i)) in short", kiln.words(2, true), 6);
        says(28, "Returns how many");
        Kit.due("a", kiln.words(1, false) + kiln.words(1, true), 2);
        Kit.due("S(i,1,2,f(i))", kiln.words(2, false), 7);
        Kit.due("three parts", kiln.words(3, false), 4);
        Kit.due("three parts in short", kiln.words(3, true), 4);
    }

    private static void word() {
        formulas(29, "formula", (kiln, formula) -> kiln.word(formula, 0));
        FormulaKiln kiln = Kit.kiln("f(g(a))", "S(z,0,9999,?)");
        says(29, "Returns a word");
        Kit.due("the first", kiln.word(0, 0), 16);
        says(29, "- `index`");
        int[] due = {16, 17, 100, 19, 19};
        for (int index = 0; index < due.length; index++) {
            Kit.due("word " + index, kiln.word(0, index), due[index]);
        }
        says(29, "Returns the word");
        Kit.due("words of 'S'", Kit.spoken(kiln, 1), "15 125 1000 10999 14");
        says(29, "Throws `IndexOutOfBoundsException`");
        for (int none : new int[] {5, 6, -1, 150, 199, 200, Integer.MIN_VALUE, Integer.MAX_VALUE}) {
            Kit.fails("word " + none, INDEX, () -> kiln.word(0, none));
        }
        FormulaKiln applied = new FormulaKiln();
        for (int k = 0; k < 98; k++) {
            applied.say(18);
        }
        applied.say(14);
        applied.hear();
        Kit.due("word 196 of 197", applied.word(0, 196), 19);
        Kit.fails("word 197 of 197", INDEX, () -> applied.word(0, 197));
    }

    private static boolean isWord(int word) {
        return word >= 1 && word <= 19 || word >= 100 && word <= 125 || word >= 1000 && word <= 10999;
    }

    private static void say() {
        says(30, "Says a word");
        FormulaKiln kiln = new FormulaKiln();
        kiln.say(1007);
        Kit.due("it is heard", Kit.text(kiln, kiln.hear()), "7");
        says(30, "Returns how many");
        for (int k = 1; k <= 150; k++) {
            Kit.due("word " + k, kiln.say(k % 19 + 1), k);
        }
        says(30, "Throws `IllegalStateException`");
        Kit.fails("word 151", STATE, () -> kiln.say(14));
        Kit.due("150 stay", kiln.hush(), 150);
        Kit.due("there is room again", kiln.say(14), 1);
        says(30, "- `word`");
        FormulaKiln saying = new FormulaKiln();
        for (int word = -200; word < 11200; word++) {
            int it = word;
            if (word % 100 == 0) {
                saying.hush();
            }
            FormulaKiln now = saying;
            if (isWord(word)) {
                Kit.due("word " + word, now.say(it) > 0, true);
            } else {
                Kit.fails("word " + word, ARGUMENT, () -> now.say(it));
            }
        }
        says(30, "Throws `IllegalArgumentException`");
        for (int none : new int[] {0, 20, 99, 126, 999, 11000, -1, 65536 + 14, Integer.MIN_VALUE, Integer.MAX_VALUE}) {
            Kit.fails("word " + none, ARGUMENT, () -> kiln.say(none));
        }
        Kit.due("none was said", kiln.hush(), 1);
    }

    private static void hear() {
        says(31, "Hears what was said");
        FormulaKiln kiln = new FormulaKiln();
        Kit.say(kiln, 1, 100, 101);
        kiln.hear();
        Kit.due("heard", Kit.text(kiln, 0), "a+b");
        Kit.due("let go", kiln.hush(), 0);
        says(31, "Returns its number");
        for (int number = 1; number < 8; number++) {
            kiln.say(14);
            Kit.due("hear()", kiln.hear(), number);
        }
        says(31, "Throws `IllegalStateException`");
        kiln.say(14);
        Kit.fails("there are 8", STATE, kiln::hear);
        Kit.due("the word stays", kiln.hush(), 1);
        FormulaKiln large = new FormulaKiln();
        for (int k = 0; k < 99; k++) {
            large.say(9);
        }
        large.say(14);
        Kit.fails("100 nodes", STATE, large::hear);
        Kit.due("the words stay", large.hush(), 100);
        for (int k = 0; k < 98; k++) {
            large.say(9);
        }
        large.say(14);
        Kit.due("99 nodes", large.size(large.hear()), 99);
        says(31, "Throws `UnsupportedOperationException`");
        for (int[] wrong : new int[][] {{}, {1}, {19}, {100, 100}, {15, 100}, {16}, {16, 100, 19, 19}}) {
            Kit.say(large, wrong);
            Kit.fails("no formula", UNSUPPORTED, large::hear);
            Kit.due("the words stay", large.hush(), wrong.length);
        }
    }

    private static void hush() {
        says(32, "Lets what was said go");
        FormulaKiln kiln = new FormulaKiln();
        Kit.say(kiln, 1, 100);
        kiln.hush();
        kiln.say(14);
        Kit.due("the last word alone is heard", Kit.text(kiln, kiln.hear()), "?");
        says(32, "Returns how many words");
        for (int count : new int[] {0, 1, 2, 149, 150}) {
            for (int k = 0; k < count; k++) {
                kiln.say(19);
            }
            Kit.due("hush() of " + count, kiln.hush(), count);
            Kit.due("hush() of none", kiln.hush(), 0);
        }
    }

    private static void holeShare() {
        formulas(33, "formula", (kiln, formula) -> kiln.holeShare(formula));
        says(33, "Returns the share");
        Kit.due("of a+", Kit.kiln("a+").holeShare(0), 1.0f / 3.0f);
        says(33, "Returns their number divided");
        Kit.due("of a", Kit.kiln("a").holeShare(0), 0.0f);
        Kit.due("of nothing", Kit.kiln("").holeShare(0), 1.0f);
        Kit.due("of 99", Kit.kiln(NODES_99).holeShare(0), 50.0f / 99.0f);
        Kit.due("of S(i", Kit.kiln("S(i").holeShare(0), 3.0f / 4.0f);
        Kit.due("of f(,a,)", Kit.kiln("f(,a,)").holeShare(0), 2.0f / 4.0f);
        Kit.due("of a hole that is typed", Kit.kiln("?+a+b").holeShare(0), 1.0f / 5.0f);
    }

    private static void meanSize() {
        says(34, "Returns the mean size");
        Kit.due("of a and a+b", Kit.kiln("a", "a+b").meanSize(), 2.0);
        says(34, "Returns the sum divided");
        Kit.due("of a, a and a+b", Kit.kiln("a", "a", "a+b").meanSize(), 5.0 / 3.0);
        Kit.due("of 99", Kit.kiln(NODES_99).meanSize(), 99.0);
        Kit.due("of 8", many(8, "ab").meanSize(), 3.0);
        says(34, "Throws `ArithmeticException`");
        Kit.fails("of none", ARITHMETIC, () -> new FormulaKiln().meanSize());
        FormulaKiln typed = new FormulaKiln();
        Kit.type(typed, "a");
        Kit.fails("of none, though something is typed", ARITHMETIC, typed::meanSize);
    }

    private static void checksum() {
        says(35, "Returns a sum over all formulas");
        FormulaKiln kiln = new FormulaKiln();
        Kit.due("of none", kiln.checksum(), 7L);
        Kit.parse(kiln, "");
        Kit.due("of a hole", kiln.checksum(), (7L * 31 + '?') * 31);
        says(35, "Returns 7 at first");
        long due = (7L * 31 + '?') * 31;
        Kit.parse(kiln, "S(k,9,f(z),-a)");
        long[][] rows = {{'S', 'k'}, {'n', 9}, {'f', 0}, {'v', 'z'}, {'~', 0}, {'v', 'a'}};
        for (long[] row : rows) {
            due = (due * 31 + row[0]) * 31 + row[1];
        }
        Kit.due("of two", kiln.checksum(), due);
        FormulaKiln large = Kit.kiln(NODES_99);
        long sum = 7;
        for (int node = 0; node < 99; node++) {
            sum = (sum * 31 + large.kind(0, node)) * 31;
        }
        Kit.due("of 99 nodes it wraps around", large.checksum(), sum);
    }

    private static void isTrue() {
        says(36, "Checks that each formula");
        Kit.due("without formulas", new FormulaKiln().isTrue(), true);
        for (String signs : new String[] {"", "1 2", "12345", "f (a+b)", "|a(|b|)|", "S(i,1,2,i)+S(k,1,2,k)", "f(g(a))", "a(-b)", "((a!)_b)_c",
            NODES_99, "-".repeat(60), "0007"}) {
            FormulaKiln kiln = Kit.kiln(signs, signs);
            Kit.due("with " + signs, kiln.isTrue(), true);
            Kit.due("it changes nothing", Kit.state(kiln), Kit.state(Kit.kiln(signs, signs)));
        }
        says(36, "Returns whether all of it holds");
        FormulaKiln kiln = Kit.kiln("a+b", "c");
        kiln.caret(0, 1);
        Kit.type(kiln, "|x|");
        kiln.put();
        Kit.type(kiln, "d)");
        Kit.say(kiln, 1, 100);
        Kit.due("behind an edit", kiln.isTrue(), true);
        Kit.due("what is typed stays", kiln.fault(), 1);
        Kit.due("what is said stays", kiln.hush(), 2);
    }

    /** "An object is used for at most 512 calls": the last one of these is right still. */
    private static void lastCall() {
        Kit.about("An object is used for at most 512 calls after it has been made");
        FormulaKiln kiln = new FormulaKiln();
        for (int call = 1; call <= 508; call += 4) {
            kiln.type('a');
            kiln.type('+');
            kiln.fault();
            kiln.wipe();
        }
        Kit.due("call 509", kiln.type('x'), 1);
        Kit.due("call 510", kiln.parse(), 0);
        Kit.due("call 511", kiln.value(0, 0), (int) 'x');
        Kit.due("call 512", kiln.checksum(), (7L * 31 + 'v') * 31 + 'x');
    }
}
