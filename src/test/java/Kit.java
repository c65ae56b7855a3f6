/** What the tests share: checks that count, and formulas as texts. */
final class Kit {
    private static int right = 0;
    private static int wrong = 0;

    private Kit() {
    }

    static void due(String what, Object got, Object want) {
        if (want.equals(got)) {
            right++;
        } else {
            wrong++;
            System.out.println("  " + what + " answered " + got + ", due is " + want);
        }
    }

    /** The call must throw just this class, by a throw statement of the engine, and nothing else. */
    static void fails(String what, Class<? extends RuntimeException> due, Runnable call) {
        Object got = "nothing";
        try {
            call.run();
        } catch (RuntimeException e) {
            got = e.getClass();
        }
        due(what + " throws", got, due);
    }

    static void type(FormulaKiln kiln, String signs) {
        for (char sign : signs.toCharArray()) {
            kiln.type(sign);
        }
    }

    static int parse(FormulaKiln kiln, String signs) {
        type(kiln, signs);
        return kiln.parse();
    }

    static FormulaKiln kiln(String... formulas) {
        FormulaKiln kiln = new FormulaKiln();
        for (String formula : formulas) {
            parse(kiln, formula);
        }
        return kiln;
    }

    static int fault(String signs) {
        FormulaKiln kiln = new FormulaKiln();
        type(kiln, signs);
        return kiln.fault();
    }

    static int say(FormulaKiln kiln, int... words) {
        int count = 0;
        for (int word : words) {
            count = kiln.say(word);
        }
        return count;
    }

    static String text(FormulaKiln kiln, int formula) {
        StringBuilder text = new StringBuilder();
        for (int place = 0; place < kiln.length(formula); place++) {
            text.append(kiln.sign(formula, place));
        }
        return text.toString();
    }

    /** The tree with each node ahead of its parts, in brackets if it has some. */
    static String tree(FormulaKiln kiln, int formula) {
        return tree(kiln, formula, 0);
    }

    static String tree(FormulaKiln kiln, int formula, int node) {
        char kind = kiln.kind(formula, node);
        StringBuilder text = new StringBuilder();
        if (kind == 'n') {
            text.append(kiln.value(formula, node));
        } else if (kind == 'v') {
            text.append((char) kiln.value(formula, node));
        } else if (kind == 'S') {
            text.append('S').append((char) kiln.value(formula, node));
        } else {
            text.append(kind);
        }
        int parts = kiln.parts(formula, node);
        for (int index = 0; index < parts; index++) {
            text.append(index == 0 ? "(" : " ").append(tree(kiln, formula, kiln.part(formula, node, index)));
        }
        return parts == 0 ? text.toString() : text.append(')').toString();
    }

    static String read(String signs) {
        return tree(kiln(signs), 0);
    }

    static String rewritten(String signs) {
        return text(kiln(signs), 0);
    }

    /** The formula that these words tell, as it is written. */
    static String heard(int... words) {
        FormulaKiln kiln = new FormulaKiln();
        say(kiln, words);
        return text(kiln, kiln.hear());
    }

    static String spoken(FormulaKiln kiln, int formula) {
        StringBuilder text = new StringBuilder();
        for (int index = 0; index < kiln.words(formula, false); index++) {
            text.append(index == 0 ? "" : " ").append(kiln.word(formula, index));
        }
        return text.toString();
    }

    /** All that can be asked without changing anything: if two of these are the same, nothing has changed. */
    static String state(FormulaKiln kiln) {
        StringBuilder text = new StringBuilder();
        for (int formula = 0; formula < 8; formula++) {
            try {
                text.append(tree(kiln, formula)).append(';');
            } catch (IndexOutOfBoundsException e) {
                break;
            }
        }
        return text.append(kiln.fault()).append(kiln.checksum()).toString();
    }

    static void end(String name) {
        System.out.println("  " + name + ": " + right + " right, " + wrong + " wrong");
        if (wrong != 0) {
            System.exit(1);
        }
    }
}
