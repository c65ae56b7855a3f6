import java.util.ArrayList;
import java.util.List;

/**
 * Every kind in every kind is heard, so that trees are there that nobody typed. Four deep, what is written is read back
 * to the same tree; three deep, no bracket and no blank is one too many.
 */
public final class BracketTest {
    /** A word and how many parts are behind it. */
    private static final int[][] SHAPES = {{1012, 0}, {105, 0}, {14, 0}, {1, 2}, {2, 2}, {3, 2}, {4, 2}, {5, 2}, {6, 2}, {7, 2},
        {8, 1}, {9, 1}, {10, 1}, {11, 2}, {12, 2}, {13, 2}, {16, 1}, {17, 2}, {18, 3}, {15, 3}};
    /** What stands at the other sides: a letter, a number, the letter 'f', '|' with a letter. */
    private static final int[][] FILLINGS = {{123}, {1003}, {105}, {10, 123}};
    private static final int SUM = 15;
    private static final int END = 19;

    private interface Check {
        void of(List<Integer> words);
    }

    public static void main(String[] args) {
        for (int[] filling : FILLINGS) {
            grow(new ArrayList<>(), 3, filling, BracketTest::isWrittenPlainly);
        }
        grow(new ArrayList<>(), 4, FILLINGS[0], BracketTest::isReadBack);
        readSome();
        Kit.end("BracketTest");
    }

    /** A way down is a shape, the side at which the next one stands, that shape, and so on. */
    private static void grow(List<Integer> way, int depth, int[] filling, Check check) {
        for (int shape = 0; shape < SHAPES.length; shape++) {
            way.add(shape);
            if (depth == 1 || SHAPES[shape][1] == 0) {
                List<Integer> words = new ArrayList<>();
                speak(way, 0, filling, words);
                check.of(words);
            } else {
                for (int side = 0; side < SHAPES[shape][1]; side++) {
                    way.add(side);
                    grow(way, depth - 1, filling, check);
                    way.remove(way.size() - 1);
                }
            }
            way.remove(way.size() - 1);
        }
    }

    private static void speak(List<Integer> way, int at, int[] filling, List<Integer> words) {
        int[] shape = SHAPES[way.get(at)];
        words.add(shape[0]);
        if (shape[0] == SUM) {
            words.add(110);
        }
        for (int side = 0; side < shape[1]; side++) {
            if (at + 1 < way.size() && way.get(at + 1) == side) {
                speak(way, at + 2, filling, words);
            } else {
                for (int word : filling) {
                    words.add(word);
                }
            }
        }
        if (shape[0] > SUM && shape[0] < END && shape[1] < 3) {
            words.add(END);
        }
    }

    private static FormulaKiln heard(List<Integer> words) {
        FormulaKiln kiln = new FormulaKiln();
        for (int word : words) {
            kiln.say(word);
        }
        kiln.hear();
        return kiln;
    }

    private static String tree(String signs) {
        FormulaKiln kiln = new FormulaKiln();
        Kit.type(kiln, signs);
        return kiln.fault() >= 0 ? "a fault" : Kit.tree(kiln, kiln.parse());
    }

    private static void isWrittenPlainly(List<Integer> words) {
        FormulaKiln kiln = heard(words);
        String tree = Kit.tree(kiln, 0);
        String text = Kit.text(kiln, 0);
        Kit.due("reading " + text, tree(text), tree);
        Kit.due("isTrue() of " + text, kiln.isTrue(), true);
        Kit.due("words of " + text, Kit.spoken(kiln, 0), words.toString().replaceAll("[\\[,\\]]", ""));
        for (int place = 0; place < text.length(); place++) {
            char ahead = place == 0 ? '*' : text.charAt(place - 1);
            if (text.charAt(place) == '(' && "Sfgh".indexOf(ahead) < 0) {
                StringBuilder without = new StringBuilder(text);
                without.setCharAt(place, ' ');
                without.setCharAt(closing(text, place), ' ');
                Kit.due("a bracket of " + text + " is one too many", tree(without.toString()).equals(tree), false);
            }
            if (text.charAt(place) == ' ') {
                char behind = text.charAt(place + 1);
                boolean isDue = Character.isDigit(ahead) && Character.isDigit(behind) || "fgh".indexOf(ahead) >= 0 && behind == '(';
                Kit.due("a blank of " + text + " is due", isDue, true);
            }
        }
    }

    private static int closing(String text, int place) {
        int open = 0;
        for (int k = place; k < text.length(); k++) {
            open += text.charAt(k) == '(' ? 1 : text.charAt(k) == ')' ? -1 : 0;
            if (open == 0) {
                return k;
            }
        }
        throw new IllegalStateException("an open bracket in " + text);
    }

    private static void isReadBack(List<Integer> words) {
        FormulaKiln kiln = heard(words);
        boolean isTrue = kiln.isTrue();
        Kit.due(isTrue ? "isTrue()" : "isTrue() of " + Kit.text(kiln, 0), isTrue, true);
    }

    /** Some of these by hand, so that they are not tried against the class alone. */
    private static void readSome() {
        Kit.due("'|' behind a factor, in '|'", Kit.heard(10, 4, 123, 10, 123), "|x(|x|)|");
        Kit.due("'|' of a power behind a factor, in '|'", Kit.heard(10, 4, 123, 6, 10, 123, 123), "|x(|x|^x)|");
        Kit.due("'|' behind a factor, in 'f' in '|'", Kit.heard(10, 16, 4, 123, 10, 123, 19), "|f(x|x|)|");
        Kit.due("'|' behind a factor, in brackets in '|'", Kit.heard(10, 3, 123, 1, 4, 123, 10, 123, 123), "|x*(x|x|+x)|");
        Kit.due("'|' behind a factor, as 'from' in '|'", Kit.heard(10, 15, 110, 4, 123, 10, 123, 123, 123), "|S(k,x|x|,x,x)|");
        Kit.due("'-' behind a factor", Kit.heard(4, 123, 9, 123), "x(-x)");
        Kit.due("'f' and brackets", Kit.heard(4, 105, 1, 123, 123), "f (x+x)");
        Kit.due("'f' below, and brackets", Kit.heard(4, 7, 123, 105, 4, 123, 123), "x_f (xx)");
        Kit.due("digits below, and digits", Kit.heard(4, 7, 123, 1012, 6, 1012, 123), "x_12 12^x");
        Kit.due("a relation of relations", Kit.heard(11, 12, 123, 123, 13, 123, 123), "(x<x)=(x>x)");
    }
}
