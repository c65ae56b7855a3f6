import java.util.NoSuchElementException;

/** An engine for formulas: read, written, laid out, edited, renamed, rewritten, spoken and heard. */
public final class FormulaKiln {
    private static final int MOST_SIGNS = 60;
    private static final int MOST_FORMULAS = 8;
    private static final int MOST_NODES = 99;
    private static final int MOST_WORDS = 150;
    private static final int MOST_EDITS = 10;
    private static final int NARROWEST = 32;
    private static final int WIDEST = 9999;
    private static final int LAST_STYLE = 3;
    private static final int NONE = -1;

    private final char[] typed;
    private int typedCount;
    private final int[] said;
    private int saidCount;
    private final Tree[] formulas;
    private int formulaCount;
    private int caretFormula;
    private int caretNode;
    private final Tree typedTree;
    private final Tree draft;
    private final Reader reader;
    private final Writer writer;
    private final Boxer boxer;
    private final Names names;
    private final Likeness likeness;
    private final Speech speech;
    private final History history;

    public FormulaKiln() {
        typed = new char[MOST_SIGNS];
        said = new int[MOST_WORDS];
        formulas = new Tree[MOST_FORMULAS];
        for (int i = 0; i < MOST_FORMULAS; i++) {
            formulas[i] = new Tree();
        }
        caretFormula = NONE;
        caretNode = NONE;
        typedTree = new Tree();
        draft = new Tree();
        reader = new Reader();
        writer = new Writer();
        boxer = new Boxer();
        names = new Names();
        likeness = new Likeness();
        speech = new Speech();
        history = new History();
    }

    public int type(char sign) throws IllegalArgumentException, IllegalStateException {
        if (!Kinds.isTypable(sign)) {
            throw new IllegalArgumentException();
        }
        if (typedCount >= MOST_SIGNS) {
            throw new IllegalStateException();
        }
        typed[typedCount] = sign;
        typedCount++;
        return typedCount;
    }

    public int wipe() {
        int gone = typedCount;
        typedCount = 0;
        return gone;
    }

    public int fault() {
        return reader.read(typed, typedCount);
    }

    public int parse() throws UnsupportedOperationException, IllegalStateException {
        if (reader.read(typed, typedCount) != NONE) {
            throw new UnsupportedOperationException();
        }
        reader.layInto(typedTree);
        int number = addFormula(typedTree);
        typedCount = 0;
        return number;
    }

    public int size(int formula) throws IndexOutOfBoundsException {
        return knownFormula(formula).count;
    }

    public char kind(int formula, int node) throws IndexOutOfBoundsException {
        return knownNode(formula, node).kinds[node];
    }

    public int value(int formula, int node) throws IndexOutOfBoundsException, NoSuchElementException {
        Tree tree = knownNode(formula, node);
        if (!Kinds.hasValue(tree.kinds[node])) {
            throw new NoSuchElementException();
        }
        return tree.values[node];
    }

    public int parts(int formula, int node) throws IndexOutOfBoundsException {
        return knownNode(formula, node).partCounts[node];
    }

    public int part(int formula, int node, int index) throws IndexOutOfBoundsException {
        Tree tree = knownNode(formula, node);
        if (index < 0 || index >= tree.partCounts[node]) {
            throw new IndexOutOfBoundsException();
        }
        return tree.partAt(node, index);
    }

    public int length(int formula) throws IndexOutOfBoundsException {
        writer.write(knownFormula(formula));
        return writer.signCount;
    }

    public char sign(int formula, int place) throws IndexOutOfBoundsException {
        writer.write(knownFormula(formula));
        if (place < 0 || place >= writer.signCount) {
            throw new IndexOutOfBoundsException();
        }
        return writer.signs[place];
    }

    public int box(int formula, int style, int node, char what)
            throws IndexOutOfBoundsException, IllegalArgumentException {
        Tree tree = knownNode(formula, node);
        if (style < 0 || style > LAST_STYLE) {
            throw new IllegalArgumentException();
        }
        if (what != 'w' && what != 'a' && what != 'b' && what != 's') {
            throw new IllegalArgumentException();
        }
        writer.markBrackets(tree);
        boxer.measure(tree, style, writer.isBracketed);
        switch (what) {
            case 'w':
                return boxer.widths[node];
            case 'a':
                return boxer.aboves[node];
            case 'b':
                return boxer.belows[node];
            default:
                return boxer.styles[node];
        }
    }

    public int lines(int formula, int width) throws IndexOutOfBoundsException, IllegalArgumentException {
        Tree tree = knownFormula(formula);
        if (width < NARROWEST || width > WIDEST) {
            throw new IllegalArgumentException();
        }
        writer.markBrackets(tree);
        boxer.measure(tree, 0, writer.isBracketed);
        return boxer.countLines(tree, width);
    }

    public int caret(int formula, int node) throws IndexOutOfBoundsException {
        Tree tree = knownNode(formula, node);
        caretFormula = formula;
        caretNode = node;
        return tree.spans[node];
    }

    public int move(char way) throws IllegalArgumentException, NoSuchElementException {
        if (way != 'u' && way != 'd' && way != 'l' && way != 'r') {
            throw new IllegalArgumentException();
        }
        Tree tree = treeAtCaret();
        int target = neighbour(tree, caretNode, way);
        if (target == NONE) {
            throw new NoSuchElementException();
        }
        caretNode = target;
        return target;
    }

    public int put() throws NoSuchElementException, UnsupportedOperationException {
        Tree tree = treeAtCaret();
        if (reader.read(typed, typedCount) != NONE) {
            throw new UnsupportedOperationException();
        }
        reader.layInto(typedTree);
        if (typedTree.isOver) {
            throw new UnsupportedOperationException();
        }
        draft.replace(tree, caretNode, typedTree, 0);
        if (draft.isOver) {
            throw new UnsupportedOperationException();
        }
        commit(caretFormula);
        typedCount = 0;
        return tree.count;
    }

    public int take() throws NoSuchElementException {
        Tree tree = treeAtCaret();
        int gone = tree.spans[caretNode] - 1;
        draft.clear();
        draft.appendRange(tree, 0, caretNode);
        draft.append('?', 0, 0);
        draft.appendRange(tree, caretNode + tree.spans[caretNode], tree.count);
        draft.settle();
        commit(caretFormula);
        return gone;
    }

    public int undo() throws NoSuchElementException {
        if (history.kept == 0) {
            throw new NoSuchElementException();
        }
        int formula = history.goBack();
        if (formula >= 0 && formula < formulaCount) {
            formulas[formula].copyFrom(history.latest());
        }
        caretFormula = NONE;
        caretNode = NONE;
        return formula;
    }

    public int binder(int formula, int node) throws IndexOutOfBoundsException, UnsupportedOperationException {
        Tree tree = knownNode(formula, node);
        if (tree.kinds[node] != 'v') {
            throw new UnsupportedOperationException();
        }
        return tree.holder(node, tree.values[node], 0);
    }

    public int free(int formula, char letter) throws IndexOutOfBoundsException, IllegalArgumentException {
        Tree tree = knownFormula(formula);
        checkLetter(letter);
        return Names.countFree(tree, letter, 0);
    }

    public int rename(int formula, int node, char letter)
            throws IndexOutOfBoundsException, IllegalArgumentException, UnsupportedOperationException {
        Tree tree = knownNode(formula, node);
        checkLetter(letter);
        if (tree.kinds[node] != 'S') {
            throw new UnsupportedOperationException();
        }
        if (tree.values[node] == letter) {
            return 0;
        }
        if (Names.isCaptured(tree, node, letter)) {
            throw new UnsupportedOperationException();
        }
        draft.copyFrom(tree);
        int others = Names.renameSum(draft, node, letter);
        commit(formula);
        return others;
    }

    public int set(int formula, char letter, int other)
            throws IndexOutOfBoundsException, IllegalArgumentException, UnsupportedOperationException {
        Tree tree = knownFormula(formula);
        Tree filling = knownFormula(other);
        checkLetter(letter);
        int replaced = names.markFree(tree, letter);
        if (replaced == 0) {
            return 0;
        }
        if (!names.fill(tree, filling, draft) || draft.isOver) {
            throw new UnsupportedOperationException();
        }
        commit(formula);
        return replaced;
    }

    public boolean areAlike(int formula, int other) throws IndexOutOfBoundsException {
        Tree tree = knownFormula(formula);
        return Likeness.isAlike(tree, 0, knownFormula(other));
    }

    public int found(int formula, int other) throws IndexOutOfBoundsException {
        Tree tree = knownFormula(formula);
        return Likeness.countFound(tree, knownFormula(other));
    }

    public int unlike(int formula) throws IndexOutOfBoundsException {
        return likeness.countUnlike(knownFormula(formula));
    }

    public int step(int formula, char rule)
            throws IndexOutOfBoundsException, IllegalArgumentException, NoSuchElementException,
            UnsupportedOperationException {
        Tree tree = knownFormula(formula);
        if (rule != 'z' && rule != 'o' && rule != 'n' && rule != 'c' && rule != 'd') {
            throw new IllegalArgumentException();
        }
        int node = Steps.firstNode(tree, rule);
        if (node == NONE) {
            throw new NoSuchElementException();
        }
        Steps.build(tree, node, rule, draft);
        if (draft.isOver) {
            throw new UnsupportedOperationException();
        }
        commit(formula);
        return node;
    }

    public int words(int formula, boolean isShort) throws IndexOutOfBoundsException {
        speech.speak(knownFormula(formula));
        return isShort ? speech.shortCount() : speech.spokenCount;
    }

    public int word(int formula, int index) throws IndexOutOfBoundsException {
        speech.speak(knownFormula(formula));
        if (index < 0 || index >= speech.spokenCount) {
            throw new IndexOutOfBoundsException();
        }
        return speech.spoken[index];
    }

    public int say(int word) throws IllegalArgumentException, IllegalStateException {
        if (!Speech.isWord(word)) {
            throw new IllegalArgumentException();
        }
        if (saidCount >= MOST_WORDS) {
            throw new IllegalStateException();
        }
        said[saidCount] = word;
        saidCount++;
        return saidCount;
    }

    public int hear() throws UnsupportedOperationException, IllegalStateException {
        if (!speech.understand(said, saidCount, draft)) {
            throw new UnsupportedOperationException();
        }
        int number = addFormula(draft);
        saidCount = 0;
        return number;
    }

    public int hush() {
        int gone = saidCount;
        saidCount = 0;
        return gone;
    }

    public float holeShare(int formula) throws IndexOutOfBoundsException {
        Tree tree = knownFormula(formula);
        int holes = 0;
        for (int node = 0; node < tree.count; node++) {
            if (tree.kinds[node] == '?') {
                holes++;
            }
        }
        return tree.count == 0 ? 0.0f : (float) holes / (float) tree.count;
    }

    public double meanSize() throws ArithmeticException {
        if (formulaCount == 0) {
            throw new ArithmeticException();
        }
        int sum = 0;
        for (int i = 0; i < formulaCount; i++) {
            sum += formulas[i].count;
        }
        return (double) sum / (double) formulaCount;
    }

    public long checksum() {
        long sum = 7;
        for (int i = 0; i < formulaCount; i++) {
            Tree tree = formulas[i];
            for (int node = 0; node < tree.count; node++) {
                sum = 31 * sum + tree.kinds[node];
                sum = 31 * sum + tree.values[node];
            }
        }
        return sum;
    }

    public boolean isTrue() {
        for (int i = 0; i < formulaCount; i++) {
            Tree tree = formulas[i];
            if (!isReadBack(tree) || !isHeardBack(tree) || !Likeness.isAlike(tree, 0, tree)) {
                return false;
            }
        }
        return true;
    }

    private boolean isReadBack(Tree tree) {
        writer.write(tree);
        if (writer.signCount > MOST_SIGNS) {
            return true;
        }
        if (reader.read(writer.signs, writer.signCount) != NONE) {
            return false;
        }
        reader.layInto(draft);
        return Likeness.isSame(draft, tree);
    }

    private boolean isHeardBack(Tree tree) {
        speech.speak(tree);
        return speech.understand(speech.spoken, speech.spokenCount, draft) && Likeness.isSame(draft, tree);
    }

    private Tree knownFormula(int formula) {
        if (formula < 0 || formula >= formulaCount) {
            throw new IndexOutOfBoundsException();
        }
        return formulas[formula];
    }

    private Tree knownNode(int formula, int node) {
        Tree tree = knownFormula(formula);
        if (node < 0 || node >= tree.count) {
            throw new IndexOutOfBoundsException();
        }
        return tree;
    }

    private static void checkLetter(char letter) {
        if (!Kinds.isLetter(letter)) {
            throw new IllegalArgumentException();
        }
    }

    private Tree treeAtCaret() {
        if (caretFormula < 0 || caretFormula >= formulaCount) {
            throw new NoSuchElementException();
        }
        Tree tree = formulas[caretFormula];
        if (caretNode < 0 || caretNode >= tree.count) {
            throw new NoSuchElementException();
        }
        return tree;
    }

    private int addFormula(Tree tree) {
        if (formulaCount >= MOST_FORMULAS || tree.isOver) {
            throw new IllegalStateException();
        }
        int number = formulaCount;
        formulas[number].copyFrom(tree);
        formulaCount++;
        return number;
    }

    /** Every edit goes through here, so that each can be undone and the caret never stands at no node. */
    private void commit(int formula) {
        if (formula < 0 || formula >= formulaCount) {
            return;
        }
        history.keep(formulas[formula], formula);
        formulas[formula].copyFrom(draft);
        if (caretFormula == formula && caretNode >= draft.count) {
            caretFormula = NONE;
            caretNode = NONE;
        }
    }

    private static int neighbour(Tree tree, int node, char way) {
        int above = tree.upOf(node);
        if (way == 'u') {
            return above;
        }
        if (way == 'd') {
            return tree.partsOf(node) > 0 ? tree.partAt(node, 0) : NONE;
        }
        if (above == NONE) {
            return NONE;
        }
        int index = tree.indexIn(above, node) + (way == 'l' ? -1 : 1);
        return index >= 0 && index < tree.partsOf(above) ? tree.partAt(above, index) : NONE;
    }

    /** What is known of signs and kinds wherever they stand. */
    private static final class Kinds {
        private static final int RELATION = 1;
        private static final int SUM = 2;
        private static final int PRODUCT = 3;
        private static final int NEGATION = 4;
        private static final int POWER = 5;
        private static final int BODY = 6;
        private static final int ATOM = 7;
        private static final String OTHER_SIGNS = "+-*/^_!()|=<>,?S ";

        static boolean isTypable(char sign) {
            return isDigit(sign) || isLetter(sign) || OTHER_SIGNS.indexOf(sign) >= 0;
        }

        static boolean isDigit(char sign) {
            return sign >= '0' && sign <= '9';
        }

        static boolean isLetter(char sign) {
            return sign >= 'a' && sign <= 'z';
        }

        static boolean isApplied(char sign) {
            return sign == 'f' || sign == 'g' || sign == 'h';
        }

        static boolean isSum(char kind) {
            return kind == '+' || kind == '-';
        }

        static boolean isRelation(char kind) {
            return kind == '=' || kind == '<' || kind == '>';
        }

        static boolean hasValue(char kind) {
            return kind == 'n' || kind == 'v' || kind == 'S';
        }

        /** How tightly a kind holds its parts together, as the levels of reading are nested. */
        static int rank(char kind) {
            switch (kind) {
                case '=':
                case '<':
                case '>':
                    return RELATION;
                case '+':
                case '-':
                    return SUM;
                case '*':
                case '/':
                case '.':
                    return PRODUCT;
                case '~':
                    return NEGATION;
                case '^':
                    return POWER;
                case '_':
                case '!':
                    return BODY;
                default:
                    return ATOM;
            }
        }

        static int mostParts(char kind) {
            switch (kind) {
                case 'n':
                case 'v':
                case '?':
                    return 0;
                case '~':
                case '!':
                case '|':
                    return 1;
                case 'S':
                case 'f':
                case 'g':
                case 'h':
                    return 3;
                default:
                    return 2;
            }
        }
    }

    /** A formula as rows, each node ahead of its parts; what does not fit is only noted. */
    private static final class Tree {
        int count;
        boolean isOver;
        final char[] kinds;
        final int[] values;
        final int[] partCounts;
        final int[] spans;
        final int[] ups;

        Tree() {
            kinds = new char[MOST_NODES];
            values = new int[MOST_NODES];
            partCounts = new int[MOST_NODES];
            spans = new int[MOST_NODES];
            ups = new int[MOST_NODES];
        }

        void clear() {
            count = 0;
            isOver = false;
        }

        void append(char kind, int value, int partCount) {
            if (count >= MOST_NODES) {
                isOver = true;
                return;
            }
            kinds[count] = kind;
            values[count] = value;
            partCounts[count] = partCount;
            count++;
        }

        void appendRange(Tree source, int from, int to) {
            for (int node = from; node < to && node < source.count; node++) {
                if (node >= 0) {
                    append(source.kinds[node], source.values[node], source.partCounts[node]);
                }
            }
        }

        void appendWhole(Tree source, int node) {
            appendRange(source, node, node + source.spanOf(node));
        }

        /** Becomes the source with another tree's node, and its parts, where the source's node stood. */
        void replace(Tree source, int node, Tree other, int otherNode) {
            clear();
            appendRange(source, 0, node);
            appendWhole(other, otherNode);
            appendRange(source, node + source.spanOf(node), source.count);
            settle();
        }

        void copyFrom(Tree source) {
            clear();
            appendRange(source, 0, source.count);
            isOver = source.isOver;
            settle();
        }

        /** Tells spans and upper nodes anew from the kinds and numbers of parts. */
        void settle() {
            if (isOver) {
                return;
            }
            for (int node = count - 1; node >= 0; node--) {
                int end = node + 1;
                for (int k = 0; k < partCounts[node] && end < count; k++) {
                    ups[end] = node;
                    end += spans[end];
                }
                spans[node] = end - node;
            }
            if (count > 0) {
                ups[0] = NONE;
            }
        }

        boolean has(int node) {
            return node >= 0 && node < count;
        }

        char kindOf(int node) {
            return node >= 0 && node < count ? kinds[node] : '?';
        }

        int valueOf(int node) {
            return node >= 0 && node < count ? values[node] : 0;
        }

        int partsOf(int node) {
            return node >= 0 && node < count ? partCounts[node] : 0;
        }

        int spanOf(int node) {
            return node >= 0 && node < count ? spans[node] : 1;
        }

        int upOf(int node) {
            return node >= 0 && node < count ? ups[node] : NONE;
        }

        int partAt(int node, int index) {
            int found = node + 1;
            for (int k = 0; k < index && k < MOST_NODES; k++) {
                found += spanOf(found);
            }
            return found;
        }

        int indexIn(int above, int node) {
            int index = 0;
            for (int k = 0; k < partsOf(above); k++) {
                if (partAt(above, k) == node) {
                    index = k;
                }
            }
            return index;
        }

        boolean isNumber(int node, int number) {
            return kindOf(node) == 'n' && valueOf(node) == number;
        }

        /** The innermost 'S' of a letter, at the top or below it, in whose last part a node is. */
        int holder(int node, int letter, int top) {
            int below = node;
            for (int turn = 0; turn < MOST_NODES && below > top; turn++) {
                int above = upOf(below);
                boolean isLast = below + spanOf(below) == above + spanOf(above);
                if (isLast && kindOf(above) == 'S' && valueOf(above) == letter) {
                    return above;
                }
                below = above;
            }
            return NONE;
        }
    }

    /** Reads signs into a tree with a row of what is still pending, so that no call stands open for a bracket. */
    private static final class Reader {
        // Sixty signs make at most two nodes each, and two holes more for each 'S' that is open at the end.
        private static final int ROOM = 256;
        private static final int MOST_TURNS = 1000;
        private static final int MOST_DIGITS = 4;

        private char[] signs;
        private int signCount;
        private int place;
        private boolean isDue;
        private boolean mayIndex;
        private int operand;
        private int made;
        private final char[] kinds;
        private final int[] values;
        private final int[] partCounts;
        private final int[][] partRows;
        private int depth;
        private final char[] pendingKinds;
        private final int[] pendingNodes;
        private final int[] waiting;

        Reader() {
            signs = new char[0];
            kinds = new char[ROOM];
            values = new int[ROOM];
            partCounts = new int[ROOM];
            partRows = new int[3][ROOM];
            pendingKinds = new char[ROOM];
            pendingNodes = new int[ROOM];
            waiting = new int[ROOM];
        }

        /** Tells the fault, NONE if there is none; then the tree can be laid out. */
        int read(char[] row, int rowCount) {
            signs = row;
            signCount = Math.min(rowCount, row.length);
            place = 0;
            made = 0;
            depth = 0;
            operand = 0;
            isDue = true;
            mayIndex = false;
            for (int turn = 0; turn < MOST_TURNS && place < signCount; turn++) {
                if (here() == ' ') {
                    place++;
                    continue;
                }
                boolean canStand = isDue ? readOperand() : isEnding() ? readEnding() : readBehind();
                if (!canStand) {
                    return place;
                }
            }
            endAll();
            return NONE;
        }

        private char here() {
            return place >= 0 && place < signCount ? signs[place] : ' ';
        }

        private boolean readOperand() {
            char sign = here();
            if (Kinds.isDigit(sign)) {
                readNumber();
            } else if (Kinds.isLetter(sign)) {
                readLetter();
            } else if (sign == 'S') {
                return readSum();
            } else if (sign == '(' || sign == '|') {
                push(sign, NONE);
                place++;
            } else if (sign == '-' && topKind() != '_') {
                push('~', NONE);
                place++;
            } else {
                place += sign == '?' ? 1 : 0;
                finishAtom(make('?', 0, NONE, NONE));
            }
            return true;
        }

        private void readNumber() {
            int number = 0;
            for (int k = 0; k < MOST_DIGITS && Kinds.isDigit(here()); k++) {
                number = 10 * number + (here() - '0');
                place++;
            }
            finishAtom(make('n', number, NONE, NONE));
        }

        private void readLetter() {
            char letter = here();
            place++;
            if (Kinds.isApplied(letter) && here() == '(') {
                push(letter, make(letter, 0, NONE, NONE));
                place++;
            } else {
                finishAtom(make('v', letter, NONE, NONE));
            }
        }

        private boolean readSum() {
            place++;
            skipBlanks();
            if (here() != '(') {
                return false;
            }
            place++;
            skipBlanks();
            char letter = here();
            if (!Kinds.isLetter(letter)) {
                return false;
            }
            place++;
            skipBlanks();
            // At the end the ',' may be missing: what is read then is as if it were typed last.
            if (place < signCount) {
                if (here() != ',') {
                    return false;
                }
                place++;
            }
            push('S', make('S', letter, NONE, NONE));
            return true;
        }

        private void skipBlanks() {
            for (int k = 0; k < MOST_TURNS && place < signCount && here() == ' '; k++) {
                place++;
            }
        }

        private boolean readBehind() {
            char sign = here();
            switch (sign) {
                case '!':
                    operand = make('!', 0, operand, NONE);
                    mayIndex = false;
                    place++;
                    return true;
                case '_':
                    return mayIndex && pushInfix(sign);
                case '^':
                    return pushInfix(sign);
                case '+':
                case '-':
                case '*':
                case '/':
                    reduce(Kinds.rank(sign));
                    return pushInfix(sign);
                case '=':
                case '<':
                case '>':
                    reduce(Kinds.SUM);
                    return !Kinds.isRelation(topKind()) && pushInfix(sign);
                default:
                    reduce(Kinds.PRODUCT);
                    push('.', operand);
                    isDue = true;
                    return true;
            }
        }

        private boolean isEnding() {
            char sign = here();
            return sign == ')' || sign == ',' || sign == '|' && innermostBracket() == '|';
        }

        /** A relation ends: at a ',' its bracket goes on, otherwise the bracket ends, too. */
        private boolean readEnding() {
            reduce(Kinds.RELATION);
            char sign = here();
            char kind = topKind();
            int partsAhead = partsOfMade(topNode());
            boolean isRow = kind == 'S' || Kinds.isApplied(kind);
            if (sign == ',') {
                if (!isRow || partsAhead >= 2) {
                    return false;
                }
                addPart(topNode(), operand);
                isDue = true;
            } else {
                boolean isOther = sign == ')' && kind != '(' && !isRow;
                if (isOther || kind == 'S' && partsAhead != 2) {
                    return false;
                }
                closeTop();
            }
            place++;
            return true;
        }

        private void endAll() {
            if (isDue) {
                finishAtom(make('?', 0, NONE, NONE));
            }
            for (int turn = 0; turn < MOST_TURNS && depth > 0; turn++) {
                reduce(Kinds.RELATION);
                if (depth > 0) {
                    closeTop();
                }
            }
        }

        private boolean pushInfix(char kind) {
            push(kind, operand);
            isDue = true;
            place++;
            return true;
        }

        /** Combines what is pending down to a rank, up to the innermost bracket. */
        private void reduce(int least) {
            for (int turn = 0; turn < ROOM && depth > 0; turn++) {
                int rank = Kinds.rank(topKind());
                if (rank == Kinds.ATOM || rank < least) {
                    return;
                }
                operand = make(topKind(), 0, topNode(), operand);
                pop();
            }
        }

        private void closeTop() {
            char kind = topKind();
            int node = topNode();
            pop();
            if (kind == '(') {
                finishAtom(operand);
            } else if (kind == '|') {
                finishAtom(make('|', 0, operand, NONE));
            } else {
                addPart(node, operand);
                for (int k = partsOfMade(node); kind == 'S' && k < 3; k++) {
                    addPart(node, make('?', 0, NONE, NONE));
                }
                finishAtom(node);
            }
        }

        private void finishAtom(int node) {
            operand = node;
            isDue = false;
            mayIndex = topKind() != '_';
            if (!mayIndex) {
                operand = make('_', 0, topNode(), node);
                pop();
            }
        }

        /** Makes a node of the parts that are not NONE. */
        private int make(char kind, int value, int left, int right) {
            if (made >= ROOM) {
                return ROOM - 1;
            }
            int node = made;
            int count = 0;
            if (left != NONE) {
                partRows[count][node] = left;
                count++;
            }
            if (right != NONE) {
                partRows[count][node] = right;
                count++;
            }
            kinds[node] = kind;
            values[node] = value;
            partCounts[node] = count;
            made++;
            return node;
        }

        private void addPart(int node, int child) {
            if (node < 0 || node >= ROOM) {
                return;
            }
            int index = partCounts[node];
            if (index >= 0 && index < partRows.length) {
                partRows[index][node] = child;
                partCounts[node] = index + 1;
            }
        }

        private int partsOfMade(int node) {
            return node >= 0 && node < ROOM ? partCounts[node] : 0;
        }

        private void push(char kind, int node) {
            if (depth < ROOM) {
                pendingKinds[depth] = kind;
                pendingNodes[depth] = node;
                depth++;
            }
        }

        private void pop() {
            if (depth > 0) {
                depth--;
            }
        }

        private char topKind() {
            return depth > 0 ? pendingKinds[depth - 1] : ' ';
        }

        private int topNode() {
            return depth > 0 ? pendingNodes[depth - 1] : NONE;
        }

        private char innermostBracket() {
            for (int k = depth - 1; k >= 0; k--) {
                if (Kinds.rank(pendingKinds[k]) == Kinds.ATOM) {
                    return pendingKinds[k];
                }
            }
            return ' ';
        }

        void layInto(Tree tree) {
            tree.clear();
            waiting[0] = operand;
            int height = 1;
            for (int turn = 0; turn < MOST_TURNS && height > 0; turn++) {
                height--;
                int node = waiting[height];
                if (node < 0 || node >= made) {
                    continue;
                }
                tree.append(kinds[node], values[node], partCounts[node]);
                for (int k = partCounts[node] - 1; k >= 0 && height < ROOM; k--) {
                    waiting[height] = partRows[k][node];
                    height++;
                }
            }
            tree.settle();
        }
    }

    /** Writes a tree in signs, and tells which parts stand in brackets. */
    private static final class Writer {
        // A node has at most seven signs of its own, two brackets and a blank.
        private static final int ROOM = 1000;
        private static final int MOST_TURNS = 1000;

        int signCount;
        final char[] signs;
        final boolean[] isBracketed;
        private final boolean[] isInBar;
        private final char[] firstSigns;
        private final int[] openNodes;
        private final int[] openParts;

        Writer() {
            signs = new char[ROOM];
            isBracketed = new boolean[MOST_NODES];
            isInBar = new boolean[MOST_NODES];
            firstSigns = new char[MOST_NODES];
            openNodes = new int[MOST_NODES];
            openParts = new int[MOST_NODES];
        }

        void markBrackets(Tree tree) {
            for (int node = tree.count - 1; node >= 0; node--) {
                firstSigns[node] = firstSign(tree, node);
            }
            isBracketed[0] = false;
            isInBar[0] = false;
            for (int node = 0; node < tree.count; node++) {
                for (int k = 0; k < tree.partsOf(node); k++) {
                    markPart(tree, node, k);
                }
            }
        }

        private void markPart(Tree tree, int node, int index) {
            int child = tree.partAt(node, index);
            if (!tree.has(child)) {
                return;
            }
            char kind = tree.kindOf(node);
            boolean wouldEndBar = kind == '.' && index == 1 && isInBar[node] && firstSigns[child] == '|';
            isBracketed[child] = wouldEndBar || isLoose(kind, index, tree.kindOf(child));
            boolean isOwnBracket = kind == 'S' || Kinds.isApplied(kind);
            isInBar[child] = !isBracketed[child] && (kind == '|' || isInBar[node] && !isOwnBracket);
        }

        /** Whether a part would be read otherwise without brackets, as its kind alone tells. */
        private static boolean isLoose(char kind, int index, char partKind) {
            return Kinds.rank(partKind) < leastRank(kind, index);
        }

        private static int leastRank(char kind, int index) {
            switch (Kinds.rank(kind)) {
                case Kinds.RELATION:
                    return Kinds.SUM;
                case Kinds.SUM:
                    return index == 0 ? Kinds.SUM : Kinds.PRODUCT;
                case Kinds.PRODUCT:
                    if (index == 0) {
                        return Kinds.PRODUCT;
                    }
                    // A '-' behind a factor would be read as a difference.
                    return kind == '.' ? Kinds.POWER : Kinds.NEGATION;
                case Kinds.NEGATION:
                    return Kinds.NEGATION;
                case Kinds.POWER:
                    return index == 0 ? Kinds.BODY : Kinds.NEGATION;
                case Kinds.BODY:
                    return kind == '!' ? Kinds.BODY : Kinds.ATOM;
                default:
                    return Kinds.RELATION;
            }
        }

        /** The first sign of a node without brackets; for a number any digit stands for the first. */
        private char firstSign(Tree tree, int node) {
            char kind = tree.kindOf(node);
            int first = tree.partAt(node, 0);
            if (kind == 'n') {
                return '0';
            }
            if (kind == 'v') {
                return (char) tree.valueOf(node);
            }
            if (kind == '~') {
                return '-';
            }
            if (Kinds.rank(kind) == Kinds.ATOM || !tree.has(first)) {
                return kind;
            }
            return isLoose(kind, 0, tree.kindOf(first)) ? '(' : firstSigns[first];
        }

        void write(Tree tree) {
            markBrackets(tree);
            signCount = 0;
            openNodes[0] = 0;
            openParts[0] = 0;
            int depth = 1;
            for (int turn = 0; turn < MOST_TURNS && depth > 0; turn++) {
                int node = openNodes[depth - 1];
                int index = openParts[depth - 1];
                if (index >= tree.partsOf(node)) {
                    writeBehind(tree, node);
                    depth--;
                } else {
                    int child = tree.partAt(node, index);
                    writeAhead(tree, node, index, child);
                    openParts[depth - 1] = index + 1;
                    if (depth < MOST_NODES) {
                        openNodes[depth] = child;
                        openParts[depth] = 0;
                        depth++;
                    }
                }
            }
        }

        private boolean isInBrackets(int node) {
            return node >= 0 && node < MOST_NODES && isBracketed[node];
        }

        /** What stands ahead of a part: signs of the node above, and the bracket of the part itself. */
        private void writeAhead(Tree tree, int node, int index, int child) {
            char kind = tree.kindOf(node);
            if (index == 0) {
                writeOpening(tree, node);
            } else if (kind == 'S' || Kinds.isApplied(kind)) {
                add(',');
            } else if (kind == '.') {
                writeGap(child);
            } else {
                add(kind);
            }
            if (isInBrackets(child)) {
                add('(');
            }
        }

        private void writeOpening(Tree tree, int node) {
            char kind = tree.kindOf(node);
            if (kind == '~') {
                add('-');
            } else if (kind == '|') {
                add('|');
            } else if (kind == 'S') {
                add('S');
                add('(');
                add((char) tree.valueOf(node));
                add(',');
            } else if (Kinds.isApplied(kind)) {
                add(kind);
                add('(');
            }
        }

        private void writeGap(int child) {
            if (child < 0 || child >= MOST_NODES) {
                return;
            }
            char next = isBracketed[child] ? '(' : firstSigns[child];
            char last = signCount > 0 ? signs[signCount - 1] : ' ';
            boolean areDigits = Kinds.isDigit(last) && Kinds.isDigit(next);
            if (areDigits || Kinds.isApplied(last) && next == '(') {
                add(' ');
            }
        }

        private void writeBehind(Tree tree, int node) {
            char kind = tree.kindOf(node);
            if (kind == 'n') {
                writeNumber(tree.valueOf(node));
            } else if (kind == 'v') {
                add((char) tree.valueOf(node));
            } else if (kind == '?' || kind == '!' || kind == '|') {
                add(kind);
            } else if (kind == 'S' || Kinds.isApplied(kind)) {
                add(')');
            }
            if (isInBrackets(node)) {
                add(')');
            }
        }

        private void writeNumber(int number) {
            for (int unit = 1000; unit > 0; unit /= 10) {
                if (number >= unit || unit == 1) {
                    add((char) ('0' + number / unit % 10));
                }
            }
        }

        private void add(char sign) {
            if (signCount < ROOM) {
                signs[signCount] = sign;
                signCount++;
            }
        }
    }

    /** Measures the box of each node, the last ones first, and breaks a formula into lines. */
    private static final class Boxer {
        private static final int SUM_ROOM = 4;
        private static final int RELATION_ROOM = 5;
        private static final int INDENT = 16;

        final int[] widths;
        final int[] aboves;
        final int[] belows;
        final int[] styles;
        private boolean[] isBracketed;
        private int usedLines;
        private int usedWidth;

        Boxer() {
            widths = new int[MOST_NODES];
            aboves = new int[MOST_NODES];
            belows = new int[MOST_NODES];
            styles = new int[MOST_NODES];
            isBracketed = new boolean[0];
        }

        void measure(Tree tree, int style, boolean[] brackets) {
            isBracketed = brackets;
            styles[0] = style;
            for (int node = 0; node < tree.count; node++) {
                for (int k = 0; k < tree.partsOf(node); k++) {
                    int child = tree.partAt(node, k);
                    if (tree.has(child)) {
                        styles[child] = partStyle(tree.kindOf(node), k, styles[node]);
                    }
                }
            }
            for (int node = tree.count - 1; node >= 0; node--) {
                measureNode(tree, node);
            }
        }

        private static int partStyle(char kind, int index, int style) {
            if (kind == '/') {
                return Math.min(style + 1, LAST_STYLE);
            }
            boolean isRaised = (kind == '^' || kind == '_') && index == 1;
            return isRaised || kind == 'S' && index < 2 ? smallStyle(style) : style;
        }

        private static int smallStyle(int style) {
            return style >= 2 ? 3 : 2;
        }

        private static int signSize(int style) {
            if (style <= 1) {
                return 8;
            }
            return style == 2 ? 6 : 4;
        }

        private static int signBelow(int style) {
            return style <= 1 ? 2 : 1;
        }

        private void measureNode(Tree tree, int node) {
            begin(node, 0, 0, 0);
            char kind = tree.kindOf(node);
            if (Kinds.isApplied(kind)) {
                measureApplied(tree, node);
                return;
            }
            switch (kind) {
                case 'n':
                    addSigns(node, digits(tree.valueOf(node)));
                    break;
                case '~':
                case '!':
                    addSigns(node, 1);
                    addPart(tree, node, 0);
                    break;
                case '|':
                    addPart(tree, node, 0);
                    begin(node, widths[node] + 4, aboves[node] + 1, belows[node] + 1);
                    break;
                case '/':
                    measureFraction(tree, node);
                    break;
                case '^':
                case '_':
                    measureRaised(tree, node);
                    break;
                case 'S':
                    measureSum(tree, node);
                    break;
                case 'v':
                case '?':
                    addSigns(node, 1);
                    break;
                default:
                    measureInfix(tree, node);
                    break;
            }
        }

        private void measureInfix(Tree tree, int node) {
            char kind = tree.kindOf(node);
            addPart(tree, node, 0);
            if (kind != '.') {
                addSigns(node, 1);
                widths[node] += 2 * sideRoom(kind, styles[node]);
            }
            addPart(tree, node, 1);
        }

        private static int sideRoom(char kind, int style) {
            if (style >= 2) {
                return 0;
            }
            if (Kinds.isSum(kind)) {
                return SUM_ROOM;
            }
            return Kinds.isRelation(kind) ? RELATION_ROOM : 0;
        }

        private void measureApplied(Tree tree, int node) {
            addSigns(node, tree.partsOf(node) - 1);
            for (int k = 0; k < tree.partsOf(node); k++) {
                addPart(tree, node, k);
            }
            begin(node, widths[node] + 8, aboves[node] + 1, belows[node] + 1);
            addSigns(node, 1);
        }

        private void measureFraction(Tree tree, int node) {
            int upper = tree.partAt(node, 0);
            int lower = tree.partAt(node, 1);
            int width = Math.max(outerWidth(upper), outerWidth(lower)) + 4;
            int above = outerAbove(upper) + outerBelow(upper) + 4;
            int below = outerAbove(lower) + outerBelow(lower) + 1 - 3;
            begin(node, width, above, Math.max(below, 0));
        }

        private void measureRaised(Tree tree, int node) {
            int left = tree.partAt(node, 0);
            int right = tree.partAt(node, 1);
            int raised = tree.kindOf(node) == '^' ? outerAbove(left) / 2 + 1 : -outerBelow(left) - 2;
            addPart(tree, node, 0);
            addBehind(node, outerWidth(right), outerAbove(right) + raised, outerBelow(right) - raised);
        }

        private void measureSum(Tree tree, int node) {
            int style = styles[node];
            int small = smallStyle(style);
            int from = tree.partAt(node, 0);
            int to = tree.partAt(node, 1);
            int fromWidth = outerWidth(from) + 2 * signSize(small);
            int fromAbove = Math.max(outerAbove(from), signSize(small));
            int fromBelow = Math.max(outerBelow(from), signBelow(small));
            begin(node, 2 * signSize(style), signSize(style) + 4, signBelow(style) + 4);
            if (style == 0) {
                widths[node] = Math.max(widths[node], Math.max(fromWidth, outerWidth(to)));
                aboves[node] += outerAbove(to) + outerBelow(to);
                belows[node] += fromAbove + fromBelow;
            } else {
                addBehind(node, Math.max(fromWidth, outerWidth(to)), outerAbove(to) + 6, outerBelow(to) - 6);
                addBehind(node, 0, fromAbove - 6, fromBelow + 6);
            }
            addPart(tree, node, 2);
        }

        private void begin(int node, int width, int above, int below) {
            widths[node] = width;
            aboves[node] = above;
            belows[node] = below;
        }

        private void addBehind(int node, int width, int above, int below) {
            widths[node] += width;
            aboves[node] = Math.max(aboves[node], above);
            belows[node] = Math.max(belows[node], below);
        }

        private void addSigns(int node, int number) {
            int style = styles[node];
            if (number > 0) {
                addBehind(node, number * signSize(style), signSize(style), signBelow(style));
            }
        }

        private void addPart(Tree tree, int node, int index) {
            int child = tree.partAt(node, index);
            addBehind(node, outerWidth(child), outerAbove(child), outerBelow(child));
        }

        private boolean isInBrackets(int node) {
            return node >= 0 && node < isBracketed.length && isBracketed[node];
        }

        private int outerWidth(int node) {
            return (node >= 0 && node < MOST_NODES ? widths[node] : 0) + (isInBrackets(node) ? 8 : 0);
        }

        private int outerAbove(int node) {
            return (node >= 0 && node < MOST_NODES ? aboves[node] : 0) + (isInBrackets(node) ? 1 : 0);
        }

        private int outerBelow(int node) {
            return (node >= 0 && node < MOST_NODES ? belows[node] : 0) + (isInBrackets(node) ? 1 : 0);
        }

        private static int digits(int number) {
            if (number < 10) {
                return 1;
            }
            if (number < 100) {
                return 2;
            }
            return number < 1000 ? 3 : 4;
        }

        /** Counts lines of a tree that was measured in the style 0. */
        int countLines(Tree tree, int width) {
            usedLines = 1;
            usedWidth = 0;
            if (Kinds.isRelation(tree.kindOf(0))) {
                placeSum(tree, tree.partAt(0, 0), 0, width);
                placeSum(tree, tree.partAt(0, 1), signSize(0) + 2 * RELATION_ROOM, width);
            } else {
                placeSum(tree, 0, 0, width);
            }
            return usedLines;
        }

        /** Left parts follow right behind their sums, so that a chain of sums stands in a row. */
        private void placeSum(Tree tree, int node, int roomAhead, int width) {
            int innermost = node;
            for (int k = 0; k < MOST_NODES && Kinds.isSum(tree.kindOf(innermost)); k++) {
                innermost++;
            }
            placePiece(outerWidth(innermost) + roomAhead, width);
            for (int sum = innermost - 1; sum >= node; sum--) {
                int piece = tree.partAt(sum, 1);
                placePiece(outerWidth(piece) + signSize(0) + 2 * SUM_ROOM, width);
            }
        }

        private void placePiece(int pieceWidth, int width) {
            int room = usedLines == 1 ? width : width - INDENT;
            if (usedWidth > 0 && usedWidth + pieceWidth > room) {
                usedLines++;
                usedWidth = 0;
            }
            usedWidth += pieceWidth;
        }
    }

    /** Bound and free letters, renaming, and putting a formula for a letter. */
    private static final class Names {
        private static final int LETTERS = 26;

        private final Tree work;
        private final boolean[] isMarked;
        private final boolean[] isUsed;

        Names() {
            work = new Tree();
            isMarked = new boolean[MOST_NODES];
            isUsed = new boolean[LETTERS];
        }

        private static boolean isFree(Tree tree, int node, int letter, int top) {
            return tree.kindOf(node) == 'v' && tree.valueOf(node) == letter
                    && tree.holder(node, letter, top) == NONE;
        }

        static int countFree(Tree tree, int letter, int top) {
            int free = 0;
            for (int node = top; node < top + tree.spanOf(top); node++) {
                if (isFree(tree, node, letter, top)) {
                    free++;
                }
            }
            return free;
        }

        private static boolean isBoundBy(Tree tree, int node, int sum) {
            return tree.kindOf(node) == 'v' && tree.holder(node, tree.valueOf(node), 0) == sum;
        }

        static boolean isCaptured(Tree tree, int sum, int letter) {
            int last = tree.partAt(sum, 2);
            if (countFree(tree, letter, last) > 0) {
                return true;
            }
            for (int node = last; node < last + tree.spanOf(last); node++) {
                if (isBoundBy(tree, node, sum) && tree.holder(node, letter, last) != NONE) {
                    return true;
                }
            }
            return false;
        }

        /** Tells how many letter nodes are other ones; the 'S' is named last, for its letter tells what it binds. */
        static int renameSum(Tree tree, int sum, int letter) {
            if (!tree.has(sum)) {
                return 0;
            }
            int others = 0;
            for (int node = sum + 1; node < tree.count && node < sum + tree.spanOf(sum); node++) {
                if (isBoundBy(tree, node, sum)) {
                    tree.values[node] = letter;
                    others++;
                }
            }
            tree.values[sum] = letter;
            return others;
        }

        int markFree(Tree tree, int letter) {
            int marked = 0;
            for (int node = 0; node < tree.count; node++) {
                isMarked[node] = isFree(tree, node, letter, 0);
                marked += isMarked[node] ? 1 : 0;
            }
            return marked;
        }

        /** Builds the tree with the filling at each marked node; tells false if an 'S' finds no letter. */
        boolean fill(Tree tree, Tree filling, Tree result) {
            work.copyFrom(tree);
            for (int node = 0; node < work.count; node++) {
                if (work.kinds[node] == 'S' && wouldCapture(node, filling)) {
                    int fresh = freshLetter(filling);
                    if (fresh == NONE) {
                        return false;
                    }
                    renameSum(work, node, fresh);
                }
            }
            result.clear();
            for (int node = 0; node < work.count; node++) {
                if (isMarked[node]) {
                    result.appendWhole(filling, 0);
                } else {
                    result.appendRange(work, node, node + 1);
                }
            }
            result.settle();
            return true;
        }

        private boolean wouldCapture(int sum, Tree filling) {
            int last = work.partAt(sum, 2);
            boolean isHolding = false;
            for (int node = last; node < last + work.spanOf(last) && node < MOST_NODES; node++) {
                isHolding = isHolding || isMarked[node];
            }
            return isHolding && countFree(filling, work.valueOf(sum), 0) > 0;
        }

        private int freshLetter(Tree filling) {
            for (int k = 0; k < LETTERS; k++) {
                isUsed[k] = false;
            }
            markUsed(work);
            markUsed(filling);
            for (int k = 0; k < LETTERS; k++) {
                if (!isUsed[k]) {
                    return 'a' + k;
                }
            }
            return NONE;
        }

        /** A letter that is applied is somewhere in the formula, too. */
        private void markUsed(Tree tree) {
            for (int node = 0; node < tree.count; node++) {
                char kind = tree.kinds[node];
                int letter = Kinds.isApplied(kind) ? kind : tree.values[node];
                int index = letter - 'a';
                if (kind != 'n' && index >= 0 && index < LETTERS) {
                    isUsed[index] = true;
                }
            }
        }
    }

    /** Whether trees are the same, or alike up to bound names. */
    private static final class Likeness {
        private final int[] firstLike;

        Likeness() {
            firstLike = new int[MOST_NODES];
        }

        static boolean isSame(Tree tree, Tree other) {
            if (tree.isOver || other.isOver || tree.count != other.count) {
                return false;
            }
            for (int node = 0; node < tree.count; node++) {
                boolean isSameNode = tree.kinds[node] == other.kinds[node]
                        && tree.values[node] == other.values[node]
                        && tree.partCounts[node] == other.partCounts[node];
                if (!isSameNode) {
                    return false;
                }
            }
            return true;
        }

        /** Whether the tree at a top is like a whole other one; what is bound above the top is free. */
        static boolean isAlike(Tree tree, int top, Tree other) {
            if (tree.spanOf(top) != other.count) {
                return false;
            }
            for (int node = 0; node < other.count; node++) {
                if (!isNodeAlike(tree, top, other, node)) {
                    return false;
                }
            }
            return true;
        }

        private static boolean isNodeAlike(Tree tree, int top, Tree other, int node) {
            int mine = top + node;
            char kind = tree.kindOf(mine);
            if (kind != other.kindOf(node) || tree.partsOf(mine) != other.partsOf(node)) {
                return false;
            }
            if (kind == 'n') {
                return tree.valueOf(mine) == other.valueOf(node);
            }
            if (kind != 'v') {
                return true;
            }
            int holder = tree.holder(mine, tree.valueOf(mine), top);
            int otherHolder = other.holder(node, other.valueOf(node), 0);
            if (holder == NONE || otherHolder == NONE) {
                return holder == otherHolder && tree.valueOf(mine) == other.valueOf(node);
            }
            return holder - top == otherHolder;
        }

        static int countFound(Tree tree, Tree other) {
            int found = 0;
            for (int node = 0; node < tree.count; node++) {
                if (isAlike(tree, node, other)) {
                    found++;
                }
            }
            return found;
        }

        /** Parts stand behind their nodes, so that from the last node on they are told apart already. */
        int countUnlike(Tree tree) {
            int unlike = 0;
            for (int node = tree.count - 1; node >= 0; node--) {
                firstLike[node] = node;
                for (int other = tree.count - 1; other > node; other--) {
                    if (isLikeNode(tree, node, other)) {
                        firstLike[node] = firstLike[other];
                        break;
                    }
                }
                unlike += firstLike[node] == node ? 1 : 0;
            }
            return unlike;
        }

        private boolean isLikeNode(Tree tree, int node, int other) {
            boolean isSameNode = tree.kindOf(node) == tree.kindOf(other)
                    && tree.valueOf(node) == tree.valueOf(other)
                    && tree.spanOf(node) == tree.spanOf(other)
                    && tree.partsOf(node) == tree.partsOf(other);
            for (int k = 0; isSameNode && k < tree.partsOf(node); k++) {
                int mine = tree.partAt(node, k);
                int its = tree.partAt(other, k);
                isSameNode = tree.has(mine) && tree.has(its) && firstLike[mine] == firstLike[its];
            }
            return isSameNode;
        }
    }

    /** The rules of rewriting: where one can be done first, and what becomes of the tree. */
    private static final class Steps {
        private static final int GREATEST = 9999;

        static int firstNode(Tree tree, char rule) {
            for (int node = 0; node < tree.count; node++) {
                if (canBeDone(tree, node, rule)) {
                    return node;
                }
            }
            return NONE;
        }

        private static boolean canBeDone(Tree tree, int node, char rule) {
            switch (rule) {
                case 'z':
                case 'o':
                case 'n':
                    return remainder(tree, node, rule) != NONE;
                case 'c':
                    return computed(tree, node) != NONE;
                default:
                    return isProduct(tree.kindOf(node)) && (isSumAt(tree, node, 1) || isSumAt(tree, node, 0));
            }
        }

        private static boolean isProduct(char kind) {
            return kind == '*' || kind == '.';
        }

        private static boolean isSumAt(Tree tree, int node, int index) {
            return Kinds.isSum(tree.kindOf(tree.partAt(node, index)));
        }

        /** The node that alone remains of a node by a rule, NONE if it can't be done there. */
        private static int remainder(Tree tree, int node, char rule) {
            char kind = tree.kindOf(node);
            int first = tree.partAt(node, 0);
            if (rule == 'n') {
                return kind == '~' && tree.kindOf(first) == '~' ? tree.partAt(first, 0) : NONE;
            }
            int number = rule == 'z' ? 0 : 1;
            boolean isBoth = rule == 'z' ? kind == '+' : isProduct(kind);
            boolean isBehind = rule == 'z' ? kind == '-' : kind == '/' || kind == '^';
            int second = tree.partAt(node, 1);
            if ((isBoth || isBehind) && tree.isNumber(second, number)) {
                return first;
            }
            return isBoth && tree.isNumber(first, number) ? second : NONE;
        }

        private static int computed(Tree tree, int node) {
            char kind = tree.kindOf(node);
            if (!Kinds.isSum(kind) && !isProduct(kind)) {
                return NONE;
            }
            int first = tree.partAt(node, 0);
            int second = tree.partAt(node, 1);
            if (tree.kindOf(first) != 'n' || tree.kindOf(second) != 'n') {
                return NONE;
            }
            int a = tree.valueOf(first);
            int b = tree.valueOf(second);
            int number = kind == '+' ? a + b : kind == '-' ? a - b : a * b;
            return number >= 0 && number <= GREATEST ? number : NONE;
        }

        static void build(Tree tree, int node, char rule, Tree result) {
            if (rule == 'z' || rule == 'o' || rule == 'n') {
                result.replace(tree, node, tree, remainder(tree, node, rule));
                return;
            }
            result.clear();
            result.appendRange(tree, 0, node);
            if (rule == 'c') {
                result.append('n', computed(tree, node), 0);
            } else {
                appendSpread(tree, node, result);
            }
            result.appendRange(tree, node + tree.spanOf(node), tree.count);
            result.settle();
        }

        private static void appendSpread(Tree tree, int node, Tree result) {
            char kind = tree.kindOf(node);
            int first = tree.partAt(node, 0);
            int second = tree.partAt(node, 1);
            boolean isRight = isSumAt(tree, node, 1);
            int sum = isRight ? second : first;
            result.append(tree.kindOf(sum), 0, 2);
            for (int k = 0; k < 2; k++) {
                int summand = tree.partAt(sum, k);
                result.append(kind, 0, 2);
                result.appendWhole(tree, isRight ? first : summand);
                result.appendWhole(tree, isRight ? summand : second);
            }
        }
    }

    /** Formulas in words: a tree spoken, and words heard as a tree. */
    private static final class Speech {
        // A node has at most two words: its own, and the letter of an 'S' or the end of an applied letter.
        private static final int ROOM = 200;
        private static final String KINDS = "+-*./^_!~|=<>?Sfgh";
        private static final int SUM_WORD = 15;
        private static final int END_WORD = 19;
        private static final int LETTER_WORD = 100;
        private static final int NUMBER_WORD = 1000;
        private static final int LAST_LETTER_WORD = 125;
        private static final int LAST_NUMBER_WORD = 10999;

        int spokenCount;
        final int[] spoken;
        private int depth;
        private boolean isWhole;
        private boolean isLetterDue;
        private final char[] openKinds;
        private final int[] openNodes;
        private final int[] openParts;

        Speech() {
            spoken = new int[ROOM];
            openKinds = new char[ROOM];
            openNodes = new int[ROOM];
            openParts = new int[ROOM];
        }

        static boolean isWord(int word) {
            return word >= 1 && word <= END_WORD || isLetterWord(word)
                    || word >= NUMBER_WORD && word <= LAST_NUMBER_WORD;
        }

        private static boolean isLetterWord(int word) {
            return word >= LETTER_WORD && word <= LAST_LETTER_WORD;
        }

        void speak(Tree tree) {
            spokenCount = 0;
            for (int node = 0; node < tree.count; node++) {
                speakNode(tree.kinds[node], tree.values[node]);
                speakEnds(tree, node);
            }
        }

        private void speakNode(char kind, int value) {
            if (kind == 'n') {
                add(NUMBER_WORD + value);
            } else if (kind == 'v') {
                add(LETTER_WORD + value - 'a');
            } else {
                add(KINDS.indexOf(kind) + 1);
                if (kind == 'S') {
                    add(LETTER_WORD + value - 'a');
                }
            }
        }

        /** Speaks the end of each applied letter whose last node this is, inner ones first. */
        private void speakEnds(Tree tree, int last) {
            int node = last;
            for (int turn = 0; turn < MOST_NODES && tree.has(node); turn++) {
                if (node + tree.spanOf(node) != last + 1) {
                    return;
                }
                if (Kinds.isApplied(tree.kindOf(node)) && tree.partsOf(node) < 3) {
                    add(END_WORD);
                }
                node = tree.upOf(node);
            }
        }

        private void add(int word) {
            if (spokenCount < ROOM) {
                spoken[spokenCount] = word;
                spokenCount++;
            }
        }

        int shortCount() {
            int kept = spokenCount;
            for (int k = spokenCount - 1; k >= 0 && spoken[k] == END_WORD; k--) {
                kept = k;
            }
            return kept;
        }

        boolean understand(int[] row, int rowCount, Tree tree) {
            tree.clear();
            depth = 0;
            isWhole = false;
            isLetterDue = false;
            for (int k = 0; k < rowCount && k < row.length; k++) {
                if (isWhole || !hearWord(row[k], tree)) {
                    return false;
                }
            }
            for (int k = 0; k < ROOM && !isWhole; k++) {
                if (isLetterDue || !endApplied(tree)) {
                    return false;
                }
            }
            tree.settle();
            return isWhole;
        }

        private boolean hearWord(int word, Tree tree) {
            if (isLetterDue) {
                isLetterDue = false;
                return isLetterWord(word) && open('S', word - LETTER_WORD + 'a', tree);
            }
            if (word == END_WORD) {
                return endApplied(tree);
            }
            if (word == SUM_WORD) {
                isLetterDue = true;
                return true;
            }
            if (word >= NUMBER_WORD) {
                return open('n', word - NUMBER_WORD, tree);
            }
            if (isLetterWord(word)) {
                return open('v', word - LETTER_WORD + 'a', tree);
            }
            return word >= 1 && word <= KINDS.length() && open(KINDS.charAt(word - 1), 0, tree);
        }

        private boolean open(char kind, int value, Tree tree) {
            int node = tree.count;
            tree.append(kind, value, Kinds.mostParts(kind));
            if (Kinds.mostParts(kind) == 0) {
                finishPart();
            } else if (depth < ROOM) {
                openKinds[depth] = kind;
                openNodes[depth] = node;
                openParts[depth] = 0;
                depth++;
            }
            return true;
        }

        /** A part is whole: so are the nodes above it of which it is the last one. */
        private void finishPart() {
            for (int turn = 0; turn < ROOM && depth > 0; turn++) {
                openParts[depth - 1]++;
                if (openParts[depth - 1] < Kinds.mostParts(openKinds[depth - 1])) {
                    return;
                }
                depth--;
            }
            isWhole = depth == 0;
        }

        private boolean endApplied(Tree tree) {
            if (depth == 0 || !Kinds.isApplied(openKinds[depth - 1]) || openParts[depth - 1] == 0) {
                return false;
            }
            depth--;
            // What does not fit is not kept, so that its node may be none.
            if (tree.has(openNodes[depth])) {
                tree.partCounts[openNodes[depth]] = openParts[depth];
            }
            finishPart();
            return true;
        }
    }

    /** The formulas as they were ahead of the last edits, in a ring. */
    private static final class History {
        int kept;
        private int next;
        private final Tree[] trees;
        private final int[] numbers;

        History() {
            trees = new Tree[MOST_EDITS];
            numbers = new int[MOST_EDITS];
            for (int i = 0; i < MOST_EDITS; i++) {
                trees[i] = new Tree();
            }
        }

        void keep(Tree tree, int formula) {
            if (next < 0 || next >= MOST_EDITS) {
                return;
            }
            trees[next].copyFrom(tree);
            numbers[next] = formula;
            next = next + 1 == MOST_EDITS ? 0 : next + 1;
            kept = Math.min(kept + 1, MOST_EDITS);
        }

        /** Steps back to the latest edit and tells whose it was. */
        int goBack() {
            next = next == 0 ? MOST_EDITS - 1 : next - 1;
            kept--;
            return next >= 0 && next < MOST_EDITS ? numbers[next] : NONE;
        }

        /** The tree ahead of the edit to which was stepped back. */
        Tree latest() {
            return next >= 0 && next < MOST_EDITS ? trees[next] : trees[0];
        }
    }
}
