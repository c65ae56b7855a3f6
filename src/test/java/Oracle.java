import java.util.ArrayDeque;
import java.util.ArrayList;
import java.util.Deque;
import java.util.HashSet;
import java.util.List;
import java.util.NoSuchElementException;
import java.util.Set;

/**
 * A second engine with the same face, written from the document in another way: trees of objects, recursion and texts
 * that stand for trees. It is there to be compared with, so it is plain and slow.
 */
public final class Oracle {
    static final class Node {
        final char kind;
        int value;
        final List<Node> parts = new ArrayList<>();

        Node(char kind, int value, Node... parts) {
            this.kind = kind;
            this.value = value;
            this.parts.addAll(List.of(parts));
        }

        Node copy() {
            Node copy = new Node(kind, value);
            for (Node part : parts) {
                copy.parts.add(part.copy());
            }
            return copy;
        }

        List<Node> all() {
            List<Node> all = new ArrayList<>();
            all.add(this);
            for (Node part : parts) {
                all.addAll(part.all());
            }
            return all;
        }

        boolean isApplied() {
            return kind == 'f' || kind == 'g' || kind == 'h';
        }

        boolean isSum() {
            return kind == '+' || kind == '-';
        }

        boolean isRelation() {
            return "=<>".indexOf(kind) >= 0;
        }

        boolean isNumber(int number) {
            return kind == 'n' && value == number;
        }

        @Override
        public String toString() {
            return "" + kind + value + parts;
        }
    }

    /** Recursive descent, a method for each word of the document's grammar. */
    static final class Descent {
        private final String signs;
        private int place;
        private final Deque<Character> open = new ArrayDeque<>();
        int fault = -1;
        Node root;

        Descent(String signs) {
            this.signs = signs;
            try {
                root = relation();
                if (sign() != 0) {
                    throw new RuntimeException();
                }
            } catch (RuntimeException e) {
                fault = place;
                root = null;
            }
        }

        private char sign() {
            while (place < signs.length() && signs.charAt(place) == ' ') {
                place++;
            }
            return place < signs.length() ? signs.charAt(place) : 0;
        }

        private boolean is(String some) {
            return sign() != 0 && some.indexOf(sign()) >= 0;
        }

        private Node relation() {
            Node left = sum();
            if (is("=<>")) {
                char kind = signs.charAt(place++);
                return new Node(kind, 0, left, sum());
            }
            return left;
        }

        private Node sum() {
            Node left = product();
            while (is("+-")) {
                char kind = signs.charAt(place++);
                left = new Node(kind, 0, left, product());
            }
            return left;
        }

        private Node product() {
            Node left = factor();
            while (true) {
                if (is("*/")) {
                    char kind = signs.charAt(place++);
                    left = new Node(kind, 0, left, factor());
                } else if (beginsAtom()) {
                    left = new Node('.', 0, left, factor());
                } else {
                    return left;
                }
            }
        }

        private boolean beginsAtom() {
            char sign = sign();
            if (sign == '|') {
                return open.isEmpty() || open.peek() != '|';
            }
            return Character.isDigit(sign) || Character.isLowerCase(sign) || is("(S?");
        }

        private Node factor() {
            if (is("-")) {
                place++;
                return new Node('~', 0, factor());
            }
            Node left = body();
            if (is("^")) {
                place++;
                return new Node('^', 0, left, factor());
            }
            return left;
        }

        private Node body() {
            Node left = atom();
            if (is("_")) {
                place++;
                left = new Node('_', 0, left, atom());
            }
            while (is("!")) {
                place++;
                left = new Node('!', 0, left);
            }
            return left;
        }

        private Node atom() {
            char sign = sign();
            if (Character.isDigit(sign)) {
                int begin = place;
                while (place < signs.length() && place < begin + 4 && Character.isDigit(signs.charAt(place))) {
                    place++;
                }
                return new Node('n', Integer.parseInt(signs.substring(begin, place)));
            }
            if (Character.isLowerCase(sign)) {
                place++;
                boolean isApplied = "fgh".indexOf(sign) >= 0 && place < signs.length() && signs.charAt(place) == '(';
                return isApplied ? applied(sign) : new Node('v', sign);
            }
            if (sign == '(' || sign == '|') {
                place++;
                open.push(sign);
                Node inner = relation();
                close(sign == '(' ? ')' : '|');
                return sign == '(' ? inner : new Node('|', 0, inner);
            }
            if (sign == 'S') {
                return bound();
            }
            if (sign == '?') {
                place++;
            }
            return new Node('?', 0);
        }

        private void close(char sign) {
            if (sign() == sign) {
                place++;
            } else if (sign() != 0) {
                throw new RuntimeException();
            }
            open.pop();
        }

        private Node applied(char letter) {
            place++;
            open.push('f');
            Node node = new Node(letter, 0, relation());
            while (node.parts.size() < 3 && is(",")) {
                place++;
                node.parts.add(relation());
            }
            close(')');
            return node;
        }

        private Node bound() {
            place++;
            demand("(");
            demand("abcdefghijklmnopqrstuvwxyz");
            Node node = new Node('S', signs.charAt(place - 1));
            open.push('S');
            for (int k = 0; k < 3; k++) {
                if (sign() != 0) {
                    demand(",");
                    node.parts.add(relation());
                } else {
                    node.parts.add(new Node('?', 0));
                }
            }
            close(')');
            return node;
        }

        private void demand(String some) {
            if (!is(some)) {
                throw new RuntimeException();
            }
            place++;
        }
    }

    private final StringBuilder typed = new StringBuilder();
    private final List<Integer> said = new ArrayList<>();
    private final List<Node> formulas = new ArrayList<>();
    private final Deque<Object[]> edits = new ArrayDeque<>();
    private int caretFormula = -1;
    private int caretNode = -1;

    public int type(char sign) {
        if ("0123456789abcdefghijklmnopqrstuvwxyz+-*/^_!()|=<>,?S ".indexOf(sign) < 0) {
            throw new IllegalArgumentException();
        }
        if (typed.length() == 60) {
            throw new IllegalStateException();
        }
        return typed.append(sign).length();
    }

    public int wipe() {
        int length = typed.length();
        typed.setLength(0);
        return length;
    }

    public int fault() {
        return new Descent(typed.toString()).fault;
    }

    public int parse() {
        int number = add(new Descent(typed.toString()).root);
        wipe();
        return number;
    }

    private int add(Node root) {
        if (root == null) {
            throw new UnsupportedOperationException();
        }
        if (formulas.size() == 8 || root.all().size() > 99) {
            throw new IllegalStateException();
        }
        formulas.add(root);
        return formulas.size() - 1;
    }

    private Node root(int formula) {
        return formulas.get(checked(formula, formulas.size()));
    }

    private Node node(int formula, int node) {
        List<Node> all = root(formula).all();
        return all.get(checked(node, all.size()));
    }

    private static int checked(int index, int bound) {
        if (index < 0 || index >= bound) {
            throw new IndexOutOfBoundsException();
        }
        return index;
    }

    public int size(int formula) {
        return root(formula).all().size();
    }

    public char kind(int formula, int node) {
        return node(formula, node).kind;
    }

    public int value(int formula, int node) {
        Node it = node(formula, node);
        if ("nvS".indexOf(it.kind) < 0) {
            throw new NoSuchElementException();
        }
        return it.value;
    }

    public int parts(int formula, int node) {
        return node(formula, node).parts.size();
    }

    public int part(int formula, int node, int index) {
        Node it = node(formula, node);
        return number(root(formula), it.parts.get(checked(index, it.parts.size())));
    }

    private static int number(Node root, Node node) {
        List<Node> all = root.all();
        for (int k = 0; k < all.size(); k++) {
            if (all.get(k) == node) {
                return k;
            }
        }
        return -1;
    }

    // Writing: the least brackets are found by trying whether the pattern of kinds is read back without them.
    private static Node reading(String signs) {
        Node root = new Descent(signs).root;
        return root == null ? new Node('X', 0) : root;
    }

    private static Node sample(char kind) {
        switch (kind) {
            case 'n':
                return new Node('n', 7);
            case 'v':
                return new Node('v', 'u');
            case '?':
                return new Node('?', 0);
            case '~':
            case '!':
            case '|':
            case 'f':
            case 'g':
            case 'h':
                return new Node(kind, 0, new Node('v', 'u'));
            case 'S':
                return new Node(kind, 'k', new Node('v', 'u'), new Node('v', 'u'), new Node('v', 'u'));
            default:
                return new Node(kind, 0, new Node('v', 'u'), new Node('v', 'w'));
        }
    }

    private static boolean needsBrackets(Node above, int index, Node part) {
        if (above.isApplied() || above.kind == 'S' || above.kind == '|') {
            return false;
        }
        Node trial = new Node(above.kind, 0);
        StringBuilder signs = new StringBuilder();
        for (int k = 0; k < above.parts.size(); k++) {
            Node inner = k == index ? sample(part.kind) : new Node('v', 'a');
            trial.parts.add(inner);
        }
        String sign = above.kind == '~' ? "-" : above.kind == '.' ? "" : "" + above.kind;
        if (above.kind == '~') {
            signs.append(sign).append(flat(trial.parts.get(0)));
        } else if (above.kind == '!') {
            signs.append(flat(trial.parts.get(0))).append(sign);
        } else {
            signs.append(flat(trial.parts.get(0))).append(sign).append(flat(trial.parts.get(1)));
        }
        return !reading(signs.toString()).toString().equals(trial.toString());
    }

    private static String flat(Node sample) {
        String u = "u";
        switch (sample.kind) {
            case 'n':
                return "7";
            case 'v':
                return "" + (char) sample.value;
            case '?':
                return "?";
            case '~':
                return "-u";
            case '!':
                return "u!";
            case '|':
                return "|u|";
            case 'S':
                return "S(k,u,u,u)";
            case '.':
                return "uw";
            default:
                return sample.isApplied() ? sample.kind + "(" + u + ")" : u + sample.kind + "w";
        }
    }

    private static boolean isBracketed(Node above, int index, boolean isInBar) {
        Node part = above.parts.get(index);
        boolean isBar = above.kind == '.' && index == 1 && isInBar && written(part, false).startsWith("|");
        return needsBrackets(above, index, part) || isBar;
    }

    private static boolean innerBar(Node above, int index, boolean isInBar) {
        if (above.kind == '|') {
            return true;
        }
        return isInBar && !above.isApplied() && above.kind != 'S' && !isBracketed(above, index, isInBar);
    }

    private static String writtenPart(Node above, int index, boolean isInBar) {
        String inner = written(above.parts.get(index), innerBar(above, index, isInBar));
        return isBracketed(above, index, isInBar) ? "(" + inner + ")" : inner;
    }

    static String written(Node node, boolean isInBar) {
        List<String> parts = new ArrayList<>();
        for (int k = 0; k < node.parts.size(); k++) {
            parts.add(writtenPart(node, k, isInBar));
        }
        switch (node.kind) {
            case 'n':
                return "" + node.value;
            case 'v':
                return "" + (char) node.value;
            case '?':
                return "?";
            case '~':
                return "-" + parts.get(0);
            case '!':
                return parts.get(0) + "!";
            case '|':
                return "|" + parts.get(0) + "|";
            case 'S':
                return "S(" + (char) node.value + "," + String.join(",", parts) + ")";
            case 'f':
            case 'g':
            case 'h':
                return node.kind + "(" + String.join(",", parts) + ")";
            case '.':
                return parts.get(0) + gap(parts.get(0), parts.get(1)) + parts.get(1);
            default:
                return parts.get(0) + node.kind + parts.get(1);
        }
    }

    private static String gap(String left, String right) {
        boolean areDigits = left.matches(".*[0-9]") && right.matches("[0-9].*");
        return areDigits || left.matches(".*[fgh]") && right.startsWith("(") ? " " : "";
    }

    public int length(int formula) {
        return written(root(formula), false).length();
    }

    public char sign(int formula, int place) {
        String text = written(root(formula), false);
        return text.charAt(checked(place, text.length()));
    }

    // Boxes: {width, above, below}.
    private static final int[][] SIGN = {{8, 8, 2}, {8, 8, 2}, {6, 6, 1}, {4, 4, 1}};

    private static int[] beside(int[]... boxes) {
        int[] all = {0, Integer.MIN_VALUE, Integer.MIN_VALUE};
        for (int[] box : boxes) {
            all[0] += box[0];
            all[1] = Math.max(all[1], box[1]);
            all[2] = Math.max(all[2], box[2]);
        }
        return all;
    }

    private static int[] grown(int[] box, int width, int above, int below) {
        return new int[] {box[0] + width, box[1] + above, box[2] + below};
    }

    private static int partStyle(Node above, int index, int style) {
        int small = style < 2 ? 2 : 3;
        if (above.kind == '/') {
            return style == 3 ? 3 : style + 1;
        }
        if ((above.kind == '^' || above.kind == '_') && index == 1) {
            return small;
        }
        return above.kind == 'S' && index != 2 ? small : style;
    }

    private static int[] partBox(Node node, int index, int style, boolean isInBar) {
        int[] box = box(node.parts.get(index), partStyle(node, index, style), innerBar(node, index, isInBar));
        return isBracketed(node, index, isInBar) ? grown(box, 8, 1, 1) : box;
    }

    private static int[] box(Node node, int style, boolean isInBar) {
        int[] sign = SIGN[style];
        int[][] p = new int[node.parts.size()][];
        for (int k = 0; k < p.length; k++) {
            p[k] = partBox(node, k, style, isInBar);
        }
        switch (node.kind) {
            case 'n':
                return grown(sign, sign[0] * (("" + node.value).length() - 1), 0, 0);
            case 'v':
            case '?':
                return sign;
            case '+':
            case '-':
                return beside(p[0], grown(sign, style < 2 ? 8 : 0, 0, 0), p[1]);
            case '=':
            case '<':
            case '>':
                return beside(p[0], grown(sign, style < 2 ? 10 : 0, 0, 0), p[1]);
            case '*':
                return beside(p[0], sign, p[1]);
            case '.':
                return beside(p[0], p[1]);
            case '~':
            case '!':
                return beside(sign, p[0]);
            case '|':
                return grown(p[0], 4, 1, 1);
            case '/':
                return new int[] {Math.max(p[0][0], p[1][0]) + 4, p[0][1] + p[0][2] + 4,
                    Math.max(0, p[1][1] + p[1][2] + 1 - 3)};
            case '^':
                int up = p[0][1] / 2 + 1;
                return beside(p[0], grown(p[1], 0, up, -up));
            case '_':
                int down = p[0][2] + 2;
                return beside(p[0], grown(p[1], 0, -down, down));
            case 'S':
                return boundBox(style, p);
            default:
                int[] inner = p[0];
                for (int k = 1; k < p.length; k++) {
                    inner = beside(inner, sign, p[k]);
                }
                return beside(sign, grown(inner, 8, 1, 1));
        }
    }

    private static int[] boundBox(int style, int[][] p) {
        int[] big = {2 * SIGN[style][0], SIGN[style][1] + 4, SIGN[style][2] + 4};
        int[] little = SIGN[style < 2 ? 2 : 3];
        int[] from = beside(little, little, p[0]);
        int width = Math.max(from[0], p[1][0]);
        if (style == 0) {
            int[] stack = {Math.max(big[0], width), big[1] + p[1][1] + p[1][2], big[2] + from[1] + from[2]};
            return beside(stack, p[2]);
        }
        int[] limits = {width, Math.max(from[1] - 6, p[1][1] + 6), Math.max(from[2] + 6, p[1][2] - 6)};
        return beside(big, limits, p[2]);
    }

    public int box(int formula, int style, int node, char what) {
        Node goal = node(formula, node);
        if (style < 0 || style > 3 || "wabs".indexOf(what) < 0) {
            throw new IllegalArgumentException();
        }
        return look(root(formula), goal, style, false, what);
    }

    private static int look(Node node, Node goal, int style, boolean isInBar, char what) {
        if (node == goal) {
            return what == 's' ? style : box(node, style, isInBar)["wab".indexOf(what)];
        }
        for (int k = 0; k < node.parts.size(); k++) {
            Node part = node.parts.get(k);
            if (part.all().contains(goal)) {
                return look(part, goal, partStyle(node, k, style), innerBar(node, k, isInBar), what);
            }
        }
        throw new RuntimeException();
    }

    public int lines(int formula, int width) {
        Node root = root(formula);
        if (width < 32 || width > 9999) {
            throw new IllegalArgumentException();
        }
        List<Integer> pieces = new ArrayList<>();
        if (root.isRelation()) {
            cut(root, 0, 0, pieces);
            cut(root, 1, 18, pieces);
        } else {
            cut(new Node('|', 0, root), 0, 0, pieces);
        }
        int lines = 0;
        int left = 0;
        for (int piece : pieces) {
            if (lines == 0 || piece > left) {
                left = width - (lines == 0 ? 0 : 16);
                lines++;
            }
            left -= piece;
        }
        return lines;
    }

    private static void cut(Node above, int index, int ahead, List<Integer> pieces) {
        Node node = above.parts.get(index);
        if (node.isSum()) {
            cut(node, 0, ahead, pieces);
            cut(node, 1, 16, pieces, true);
        } else {
            cut(above, index, ahead, pieces, true);
        }
    }

    private static void cut(Node above, int index, int ahead, List<Integer> pieces, boolean isPiece) {
        boolean isWhole = above.kind == '|' && above.parts.size() == 1;
        pieces.add(ahead + (isWhole ? box(above.parts.get(0), 0, false) : partBox(above, index, 0, false))[0]);
    }

    public int caret(int formula, int node) {
        int size = node(formula, node).all().size();
        caretFormula = formula;
        caretNode = node;
        return size;
    }

    private Node atCaret() {
        if (caretFormula < 0) {
            throw new NoSuchElementException();
        }
        return node(caretFormula, caretNode);
    }

    private static Node above(Node root, Node node) {
        for (Node other : root.all()) {
            for (Node part : other.parts) {
                if (part == node) {
                    return other;
                }
            }
        }
        return null;
    }

    private static int indexIn(Node above, Node part) {
        for (int k = 0; k < above.parts.size(); k++) {
            if (above.parts.get(k) == part) {
                return k;
            }
        }
        return -1;
    }

    public int move(char way) {
        if ("udlr".indexOf(way) < 0) {
            throw new IllegalArgumentException();
        }
        Node node = atCaret();
        Node root = root(caretFormula);
        Node above = above(root, node);
        Node goal = null;
        if (way == 'u') {
            goal = above;
        } else if (way == 'd') {
            goal = node.parts.isEmpty() ? null : node.parts.get(0);
        } else if (above != null) {
            int index = indexIn(above, node) + (way == 'l' ? -1 : 1);
            goal = index < 0 || index >= above.parts.size() ? null : above.parts.get(index);
        }
        if (goal == null) {
            throw new NoSuchElementException();
        }
        caretNode = number(root, goal);
        return caretNode;
    }

    private static Node replaced(Node root, Node old, Node fresh) {
        if (root == old) {
            return fresh;
        }
        Node copy = new Node(root.kind, root.value);
        for (Node part : root.parts) {
            copy.parts.add(replaced(part, old, fresh));
        }
        return copy;
    }

    private void edit(int formula, Node root) {
        edits.push(new Object[] {formula, root(formula)});
        if (edits.size() > 10) {
            edits.removeLast();
        }
        formulas.set(formula, root.copy());
        if (formula == caretFormula && caretNode >= root.all().size()) {
            caretFormula = -1;
        }
    }

    public int put() {
        Node node = atCaret();
        Node fresh = new Descent(typed.toString()).root;
        if (fresh == null) {
            throw new UnsupportedOperationException();
        }
        Node root = replaced(root(caretFormula), node, fresh);
        if (root.all().size() > 99) {
            throw new UnsupportedOperationException();
        }
        wipe();
        edit(caretFormula, root);
        return root.all().size();
    }

    public int take() {
        Node node = atCaret();
        edit(caretFormula, replaced(root(caretFormula), node, new Node('?', 0)));
        return node.all().size() - 1;
    }

    public int undo() {
        if (edits.isEmpty()) {
            throw new NoSuchElementException();
        }
        Object[] edit = edits.pop();
        formulas.set((Integer) edit[0], (Node) edit[1]);
        caretFormula = -1;
        return (Integer) edit[0];
    }

    // Names: what binds a node is carried down.
    private static Node binderOf(Node root, Node node) {
        Node found = null;
        for (Node sum : root.all()) {
            if (sum.kind == 'S' && sum.value == node.value && sum.parts.get(2).all().contains(node)) {
                found = sum;
            }
        }
        return found;
    }

    public int binder(int formula, int node) {
        Node it = node(formula, node);
        if (it.kind != 'v') {
            throw new UnsupportedOperationException();
        }
        Node binder = binderOf(root(formula), it);
        return binder == null ? -1 : number(root(formula), binder);
    }

    private static void checkLetter(char letter) {
        if (letter < 'a' || letter > 'z') {
            throw new IllegalArgumentException();
        }
    }

    private static List<Node> freeOnes(Node root, int letter) {
        List<Node> free = new ArrayList<>();
        for (Node node : root.all()) {
            if (node.kind == 'v' && node.value == letter && binderOf(root, node) == null) {
                free.add(node);
            }
        }
        return free;
    }

    public int free(int formula, char letter) {
        Node root = root(formula);
        checkLetter(letter);
        return freeOnes(root, letter).size();
    }

    /** A text that is the same just for alike trees: what is bound is told by how many 'S' are between. */
    private static String nameless(Node node, List<Integer> bound, Node forLetter, int letter) {
        if (node.kind == 'v') {
            int index = bound.lastIndexOf(node.value);
            if (index >= 0) {
                return "#" + (bound.size() - index);
            }
            return forLetter != null && node.value == letter ? nameless(forLetter, new ArrayList<>(), null, 0)
                    : "v" + (char) node.value;
        }
        StringBuilder text = new StringBuilder("(").append(node.kind).append(node.kind == 'n' ? node.value : 0);
        for (int k = 0; k < node.parts.size(); k++) {
            List<Integer> within = new ArrayList<>(bound);
            if (node.kind == 'S' && k == 2) {
                within.add(node.value);
            }
            text.append(' ').append(nameless(node.parts.get(k), within, forLetter, letter));
        }
        return text.append(')').toString();
    }

    private static String nameless(Node node) {
        return nameless(node, new ArrayList<>(), null, 0);
    }

    private static int renamed(Node root, Node sum, int letter) {
        List<Node> bound = new ArrayList<>();
        for (Node node : sum.parts.get(2).all()) {
            if (node.kind == 'v' && binderOf(root, node) == sum) {
                bound.add(node);
            }
        }
        for (Node node : bound) {
            node.value = letter;
        }
        sum.value = letter;
        return bound.size();
    }

    public int rename(int formula, int node, char letter) {
        Node it = node(formula, node);
        checkLetter(letter);
        if (it.kind != 'S') {
            throw new UnsupportedOperationException();
        }
        if (it.value == letter) {
            return 0;
        }
        Node root = root(formula).copy();
        int count = renamed(root, root.all().get(node), letter);
        // Nothing is captured just if the tree is still alike.
        if (!nameless(root).equals(nameless(root(formula)))) {
            throw new UnsupportedOperationException();
        }
        edit(formula, root);
        return count;
    }

    public int set(int formula, char letter, int other) {
        Node old = root(formula);
        Node filling = root(other);
        checkLetter(letter);
        Node root = old.copy();
        List<Node> free = freeOnes(root, letter);
        if (free.isEmpty()) {
            return 0;
        }
        for (Node sum : root.all()) {
            boolean isHolding = false;
            for (Node node : free) {
                isHolding |= sum.kind == 'S' && sum.parts.get(2).all().contains(node);
            }
            if (isHolding && !freeOnes(filling, sum.value).isEmpty()) {
                renamed(root, sum, freshLetter(root, filling));
            }
        }
        for (Node node : free) {
            root = filled(root, node, filling);
        }
        if (root.all().size() > 99) {
            throw new UnsupportedOperationException();
        }
        String due = nameless(old, new ArrayList<>(), filling, letter);
        if (!nameless(root).equals(due)) {
            throw new RuntimeException("captured");
        }
        edit(formula, root);
        return free.size();
    }

    /** Changes in place, so that the other nodes that wait to be filled are still known. */
    private static Node filled(Node root, Node node, Node filling) {
        if (root == node) {
            return filling.copy();
        }
        Node above = above(root, node);
        above.parts.set(indexIn(above, node), filling.copy());
        return root;
    }

    private static int freshLetter(Node root, Node filling) {
        Set<Integer> used = new HashSet<>();
        for (Node tree : List.of(root, filling)) {
            for (Node node : tree.all()) {
                if (node.kind == 'v' || node.kind == 'S') {
                    used.add(node.value);
                }
                if (node.isApplied()) {
                    used.add((int) node.kind);
                }
            }
        }
        for (int letter = 'a'; letter <= 'z'; letter++) {
            if (!used.contains(letter)) {
                return letter;
            }
        }
        throw new UnsupportedOperationException();
    }

    public boolean areAlike(int formula, int other) {
        return nameless(root(formula)).equals(nameless(root(other)));
    }

    public int found(int formula, int other) {
        int found = 0;
        Node root = root(formula);
        String due = nameless(root(other));
        for (Node node : root.all()) {
            found += nameless(node).equals(due) ? 1 : 0;
        }
        return found;
    }

    public int unlike(int formula) {
        Set<String> all = new HashSet<>();
        for (Node node : root(formula).all()) {
            all.add(node.toString());
        }
        return all.size();
    }

    private static Node stepped(Node node, char rule) {
        Node a = node.parts.isEmpty() ? null : node.parts.get(0);
        Node b = node.parts.size() < 2 ? null : node.parts.get(1);
        boolean isProduct = node.kind == '*' || node.kind == '.';
        if (rule == 'z') {
            return node.isSum() && b.isNumber(0) ? a : node.kind == '+' && a.isNumber(0) ? b : null;
        }
        if (rule == 'o') {
            boolean isBehind = (isProduct || node.kind == '/' || node.kind == '^') && b.isNumber(1);
            return isBehind ? a : isProduct && a.isNumber(1) ? b : null;
        }
        if (rule == 'n') {
            return node.kind == '~' && a.kind == '~' ? a.parts.get(0) : null;
        }
        if (rule == 'c') {
            if (!node.isSum() && !isProduct || a.kind != 'n' || b.kind != 'n') {
                return null;
            }
            long number = node.kind == '+' ? a.value + b.value : node.kind == '-' ? a.value - b.value : (long) a.value * b.value;
            return number < 0 || number > 9999 ? null : new Node('n', (int) number);
        }
        if (isProduct && b.isSum()) {
            return new Node(b.kind, 0, new Node(node.kind, 0, a, b.parts.get(0)), new Node(node.kind, 0, a, b.parts.get(1)));
        }
        if (isProduct && a.isSum()) {
            return new Node(a.kind, 0, new Node(node.kind, 0, a.parts.get(0), b), new Node(node.kind, 0, a.parts.get(1), b));
        }
        return null;
    }

    public int step(int formula, char rule) {
        Node root = root(formula);
        if ("zoncd".indexOf(rule) < 0) {
            throw new IllegalArgumentException();
        }
        for (Node node : root.all()) {
            Node fresh = stepped(node, rule);
            if (fresh != null) {
                Node result = replaced(root, node, fresh);
                if (result.all().size() > 99) {
                    throw new UnsupportedOperationException();
                }
                int number = number(root, node);
                edit(formula, result);
                return number;
            }
        }
        throw new NoSuchElementException();
    }

    private static final String SPOKEN = " +-*./^_!~|=<>?Sfgh";

    private static void speak(Node node, List<Integer> words) {
        if (node.kind == 'n') {
            words.add(1000 + node.value);
        } else if (node.kind == 'v') {
            words.add(100 + node.value - 'a');
        } else {
            words.add(SPOKEN.indexOf(node.kind));
        }
        if (node.kind == 'S') {
            words.add(100 + node.value - 'a');
        }
        for (Node part : node.parts) {
            speak(part, words);
        }
        if (node.isApplied() && node.parts.size() < 3) {
            words.add(19);
        }
    }

    private static List<Integer> spoken(Node node) {
        List<Integer> words = new ArrayList<>();
        speak(node, words);
        return words;
    }

    public int words(int formula, boolean isShort) {
        List<Integer> words = spoken(root(formula));
        while (isShort && words.get(words.size() - 1) == 19) {
            words.remove(words.size() - 1);
        }
        return words.size();
    }

    public int word(int formula, int index) {
        List<Integer> words = spoken(root(formula));
        return words.get(checked(index, words.size()));
    }

    public int say(int word) {
        if (!(word >= 1 && word <= 19 || word >= 100 && word <= 125 || word >= 1000 && word <= 10999)) {
            throw new IllegalArgumentException();
        }
        if (said.size() == 150) {
            throw new IllegalStateException();
        }
        said.add(word);
        return said.size();
    }

    private int heardPlace;

    private int next() {
        return heardPlace < said.size() ? said.get(heardPlace++) : 19;
    }

    private Node heard() {
        int word = next();
        if (word >= 1000) {
            return new Node('n', word - 1000);
        }
        if (word >= 100) {
            return new Node('v', word - 100 + 'a');
        }
        if (word == 19) {
            throw new UnsupportedOperationException();
        }
        char kind = SPOKEN.charAt(word);
        if (kind == 'S') {
            int letter = next();
            if (letter < 100 || letter > 125) {
                throw new UnsupportedOperationException();
            }
            return new Node('S', letter - 100 + 'a', heard(), heard(), heard());
        }
        if (kind == '?') {
            return new Node('?', 0);
        }
        Node node = new Node(kind, 0, heard());
        if (node.isApplied()) {
            while (node.parts.size() < 3) {
                if (heardPlace >= said.size() || said.get(heardPlace) == 19) {
                    heardPlace++;
                    break;
                }
                node.parts.add(heard());
            }
        } else if (kind != '!' && kind != '~' && kind != '|') {
            node.parts.add(heard());
        }
        return node;
    }

    public int hear() {
        heardPlace = 0;
        Node root = heard();
        if (heardPlace < said.size()) {
            throw new UnsupportedOperationException();
        }
        int number = add(root);
        hush();
        return number;
    }

    public int hush() {
        int size = said.size();
        said.clear();
        return size;
    }

    public float holeShare(int formula) {
        List<Node> all = root(formula).all();
        return (float) all.stream().filter(node -> node.kind == '?').count() / (float) all.size();
    }

    public double meanSize() {
        if (formulas.isEmpty()) {
            throw new ArithmeticException();
        }
        return formulas.stream().mapToDouble(root -> root.all().size()).sum() / (double) formulas.size();
    }

    public long checksum() {
        long sum = 7;
        for (Node root : formulas) {
            for (Node node : root.all()) {
                sum = (sum * 31 + node.kind) * 31 + node.value;
            }
        }
        return sum;
    }

    public boolean isTrue() {
        for (Node root : formulas) {
            String text = written(root, false);
            if (text.length() <= 60 && !reading(text).toString().equals(root.toString())) {
                return false;
            }
        }
        return true;
    }
}
