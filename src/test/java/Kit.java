import java.util.ArrayList;
import java.util.List;
import java.util.function.Consumer;
import java.util.function.Supplier;

/** What the tests share: checks that count, and formulas as texts. */
final class Kit {
    private static int right = 0;
    private static int wrong = 0;
    private static String about = "";

    private Kit() {
    }

    static void due(String what, Object got, Object want) {
        if (want.equals(got)) {
            right++;
        } else {
            wrong++;
            System.out.println("  " + what + " answered " + got + ", due is " + want);
            if (!about.isEmpty()) {
                System.out.println("    (" + about + ")");
            }
        }
    }

    /** What the next checks are about, to be told with one that is wrong. */
    static void about(String sentence) {
        about = sentence;
    }

    static int checks() {
        return right + wrong;
    }

    /** The call must throw just this class, by a throw statement of the engine, and nothing else. */
    static void fails(String what, Class<? extends RuntimeException> due, Runnable call) {
        Object got = "nothing";
        try {
            call.run();
        } catch (RuntimeException e) {
            got = e.getClass();
        }
        due(what + " throws", got, due);
    }

    static void type(FormulaKiln kiln, String signs) {
        for (char sign : signs.toCharArray()) {
            kiln.type(sign);
        }
    }

    static int parse(FormulaKiln kiln, String signs) {
        type(kiln, signs);
        return kiln.parse();
    }

    static FormulaKiln kiln(String... formulas) {
        FormulaKiln kiln = new FormulaKiln();
        for (String formula : formulas) {
            parse(kiln, formula);
        }
        return kiln;
    }

    static int fault(String signs) {
        FormulaKiln kiln = new FormulaKiln();
        type(kiln, signs);
        return kiln.fault();
    }

    static int say(FormulaKiln kiln, int... words) {
        int count = 0;
        for (int word : words) {
            count = kiln.say(word);
        }
        return count;
    }

    static String text(FormulaKiln kiln, int formula) {
        StringBuilder text = new StringBuilder();
        for (int place = 0; place < kiln.length(formula); place++) {
            text.append(kiln.sign(formula, place));
        }
        return text.toString();
    }

    /** The tree with each node ahead of its parts, in brackets if it has some. */
    static String tree(FormulaKiln kiln, int formula) {
        return tree(kiln, formula, 0);
    }

    static String tree(FormulaKiln kiln, int formula, int node) {
        char kind = kiln.kind(formula, node);
        StringBuilder text = new StringBuilder();
        if (kind == 'n') {
            text.append(kiln.value(formula, node));
        } else if (kind == 'v') {
            text.append((char) kiln.value(formula, node));
        } else if (kind == 'S') {
            text.append('S').append((char) kiln.value(formula, node));
        } else {
            text.append(kind);
        }
        int parts = kiln.parts(formula, node);
        for (int index = 0; index < parts; index++) {
            text.append(index == 0 ? "(" : " ").append(tree(kiln, formula, kiln.part(formula, node, index)));
        }
        return parts == 0 ? text.toString() : text.append(')').toString();
    }

    static String read(String signs) {
        return tree(kiln(signs), 0);
    }

    static String rewritten(String signs) {
        return text(kiln(signs), 0);
    }

    /** The formula that these words tell, as it is written. */
    static String heard(int... words) {
        FormulaKiln kiln = new FormulaKiln();
        say(kiln, words);
        return text(kiln, kiln.hear());
    }

    static String spoken(FormulaKiln kiln, int formula) {
        StringBuilder text = new StringBuilder();
        for (int index = 0; index < kiln.words(formula, false); index++) {
            text.append(index == 0 ? "" : " ").append(kiln.word(formula, index));
        }
        return text.toString();
    }

    /** All that can be asked without changing anything: if two of these are the same, nothing has changed. */
    static String state(FormulaKiln kiln) {
        StringBuilder text = new StringBuilder();
        for (int formula = 0; formula < 8; formula++) {
            try {
                text.append(tree(kiln, formula)).append(';');
            } catch (IndexOutOfBoundsException e) {
                break;
            }
        }
        return text.append(kiln.fault()).append(kiln.checksum()).toString();
    }

    /** The call throws, and an engine that was called so can't be told from one that was not. */
    static void changesNothing(String what, Class<? extends RuntimeException> due, Supplier<FormulaKiln> made,
            Consumer<FormulaKiln> call) {
        for (int probe = 0; probe < PROBES; probe++) {
            FormulaKiln called = made.get();
            fails(what, due, () -> call.accept(called));
            due(what + " changes nothing that the probe " + probe + " finds", probe(called, probe),
                    probe(made.get(), probe));
        }
    }

    private static final int PROBES = 6;

    /** What is inside can be seen only by calls that change it, so that each probe wants an engine of its own. */
    private static String probe(FormulaKiln kiln, int probe) {
        List<String> seen = new ArrayList<>();
        switch (probe) {
            case 0:
                for (char way : "drrlduludrdrduu".toCharArray()) {
                    seen.add(told(() -> kiln.move(way)));
                }
                break;
            case 1:
                seen.add(told(kiln::take));
                break;
            case 2:
                for (int k = 0; k < 11; k++) {
                    seen.add(told(kiln::undo) + kiln.checksum());
                }
                break;
            case 3:
                seen.add(told(kiln::fault));
                seen.add(told(kiln::parse));
                seen.add(told(kiln::put));
                seen.add(told(kiln::wipe));
                break;
            case 4:
                seen.add(told(kiln::hear));
                seen.add(told(kiln::hush));
                break;
            default:
                seen.add(told(() -> kiln.type('a')));
                seen.add(told(() -> kiln.say(14)));
                break;
        }
        return seen + state(kiln);
    }

    private static String told(Supplier<Object> call) {
        try {
            return "" + call.get();
        } catch (RuntimeException e) {
            return e.getClass().getName();
        }
    }

    /** What checksum() must tell, from what kind() and value() tell; an edit may leave nothing else in a node. */
    static long sum(FormulaKiln kiln, int formulas) {
        long sum = 7;
        for (int formula = 0; formula < formulas; formula++) {
            for (int node = 0; node < kiln.size(formula); node++) {
                char kind = kiln.kind(formula, node);
                boolean isTold = kind == 'n' || kind == 'v' || kind == 'S';
                sum = (sum * 31 + kind) * 31 + (isTold ? kiln.value(formula, node) : 0);
            }
        }
        return sum;
    }

    /** The formulas hold nothing but what can be asked, and are as they would be if they were read anew. */
    static void sound(FormulaKiln kiln, int formulas) {
        due("checksum()", kiln.checksum(), sum(kiln, formulas));
        due("isTrue()", kiln.isTrue(), true);
    }

    static void end(String name) {
        System.out.println("  " + name + ": " + right + " right, " + wrong + " wrong");
        if (wrong != 0) {
            System.exit(1);
        }
    }
}
