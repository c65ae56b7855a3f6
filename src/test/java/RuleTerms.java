import java.util.NoSuchElementException;
import java.util.function.Consumer;

/** The paragraphs "Steps", "Speech" and "Exceptions". */
final class RuleTerms {
    private static final Class<IndexOutOfBoundsException> INDEX = IndexOutOfBoundsException.class;
    private static final Class<IllegalArgumentException> ARGUMENT = IllegalArgumentException.class;
    private static final Class<IllegalStateException> STATE = IllegalStateException.class;
    private static final Class<NoSuchElementException> NO_SUCH = NoSuchElementException.class;
    private static final Class<UnsupportedOperationException> UNSUPPORTED = UnsupportedOperationException.class;
    private static final Class<ArithmeticException> ARITHMETIC = ArithmeticException.class;

    private RuleTerms() {
    }

    static void test(Sentences sentences) {
        sumsAndProducts(sentences);
        manySteps(sentences);
        computing(sentences);
        spreading(sentences);
        speech(sentences);
        speechInShort(sentences);
        hearing(sentences);
        hearingEnds(sentences);
        nothingChanges(sentences);
        nothingChangesInEdits(sentences);
        firstExceptions(sentences);
    }

    private static void steps(char rule, String signs, int node, String due) {
        FormulaKiln kiln = Kit.kiln(signs);
        Kit.due(rule + " in " + signs, kiln.step(0, rule), node);
        Kit.due("what becomes of it", Kit.text(kiln, 0), due);
        Kit.sound(kiln, 1);
        Kit.due("the step is undone", kiln.undo(), 0);
        Kit.due("as it was", Kit.text(kiln, 0), Kit.rewritten(signs));
    }

    private static void never(char rule, String... rows) {
        for (String signs : rows) {
            FormulaKiln kiln = Kit.kiln(signs);
            Kit.fails(rule + " in " + signs, NO_SUCH, () -> kiln.step(0, rule));
            Kit.due("as it was", Kit.text(kiln, 0), Kit.rewritten(signs));
        }
    }

    private static void sumsAndProducts(Sentences sentences) {
        sentences.says("Steps", "A step does a rule at the first node");
        steps('z', "a+0", 0, "a");
        steps('z', "0+a", 0, "a");
        steps('z', "a-0", 0, "a");
        steps('z', "0+0", 0, "0");
        steps('z', "0-0", 0, "0");
        steps('z', "a+0000", 0, "a");
        steps('z', "(b=c)+0", 0, "b=c");
        steps('z', "(a+0)+0", 0, "a+0");
        steps('z', "(a+0)*(0+b)", 1, "a*(0+b)");
        steps('z', "a*(0+b)", 2, "a*b");
        steps('z', "f(a,b-0)", 2, "f(a,b)");
        never('z', "0-a", "a*0", "0a", "a/0", "a^0", "a=0", "-0", "a+1", "a+?", "a+10", "0", "a_0", "f(a,0)", "a+-0", "a+0*b");
        steps('o', "a*1", 0, "a");
        steps('o', "1*a", 0, "a");
        steps('o', "a(1)", 0, "a");
        steps('o', "1a", 0, "a");
        steps('o', "1 1", 0, "1");
        steps('o', "a/1", 0, "a");
        steps('o', "1/1", 0, "1");
        steps('o', "a^1", 0, "a");
        steps('o', "1^1", 0, "1");
        steps('o', "a*0001", 0, "a");
        steps('o', "(a+b)*1", 0, "a+b");
        steps('o', "2+1x+1y", 3, "2+x+1y");
        steps('o', "(a^1)/1", 0, "a^1");
        never('o', "1/a", "1^a", "a_1", "a+1", "a-1", "1!", "a*11", "a*2", "a=1", "f(1)", "a^10", "a*-1", "1");
        steps('n', "--a", 0, "a");
        steps('n', "---a", 0, "-a");
        steps('n', "--(a+b)", 0, "a+b");
        steps('n', "a---b", 2, "a-b");
        steps('n', "-(--a)b", 1, "-ab");
        never('n', "-a", "a-b", "a--b", "-(a-b)", "-(-a)!", "-(-a*b)");
    }

    /** Steps of one object, each of which finds what the last one left. */
    private static void manySteps(Sentences sentences) {
        sentences.says("Steps", "A step does a rule at the first node");
        FormulaKiln kiln = Kit.kiln("2*(3+4)(x+0)--(1y)", "7-(5-2)");
        Object[][] rows = {{0, 'd', 1, "2*(3+4)x+2*(3+4)0--(1y)"}, {0, 'd', 3, "(2*3+2*4)x+2*(3+4)0--(1y)"},
            {0, 'd', 2, "2*3x+2*4x+2*(3+4)0--(1y)"}, {1, 'c', 2, "7-3"}, {0, 'c', 4, "6x+2*4x+2*(3+4)0--(1y)"},
            {0, 'c', 7, "6x+8x+2*(3+4)0--(1y)"}, {1, 'c', 0, "4"}, {0, 'c', 12, "6x+8x+2*7 0--(1y)"}, {0, 'o', 15, "6x+8x+2*7 0--y"},
            {0, 'c', 10, "6x+8x+14 0--y"}, {0, 'c', 9, "6x+8x+0--y"}, {0, 'z', 1, "6x+8x--y"}};
        for (Object[] row : rows) {
            Kit.due("step " + row[1], kiln.step((Integer) row[0], (Character) row[1]), row[2]);
            Kit.due("it leaves", Kit.text(kiln, (Integer) row[0]), row[3]);
            Kit.sound(kiln, 2);
        }
    }

    private static void computing(Sentences sentences) {
        sentences.says("Steps", "A step does a rule at the first node");
        steps('c', "2+3", 0, "5");
        steps('c', "0+0", 0, "0");
        steps('c', "9998+1", 0, "9999");
        steps('c', "5000+4999", 0, "9999");
        steps('c', "9999+0", 0, "9999");
        steps('c', "3-2", 0, "1");
        steps('c', "3-3", 0, "0");
        steps('c', "9999-0", 0, "9999");
        steps('c', "2*3", 0, "6");
        steps('c', "2 3", 0, "6");
        steps('c', "99*101", 0, "9999");
        steps('c', "99 101", 0, "9999");
        steps('c', "9999*1", 0, "9999");
        steps('c', "9999*0", 0, "0");
        steps('c', "1*2*3", 1, "2*3");
        steps('c', "(1+2)-(3+4)", 1, "3-(3+4)");
        steps('c', "9999*9999+(1-2)+(1+2)", 8, "9999*9999+(1-2)+3");
        never('c', "2-3", "0-1", "0-9999", "9999+1", "9999+9999", "5000+5000", "100*100", "9999*9999", "2*5000", "10 1000",
                "6/3", "2^3", "2_3", "2=3", "2<3", "f(2,3)", "-2", "2!", "a+1", "1+a", "2+?", "-2+3", "2*-3", "2", "");
    }

    private static void spreading(Sentences sentences) {
        sentences.says("Steps", "A step does a rule at the first node");
        steps('d', "a*(b+c)", 0, "a*b+a*c");
        steps('d', "a*(b-c)", 0, "a*b-a*c");
        steps('d', "a(b+c)", 0, "ab+ac");
        steps('d', "a(b-c)", 0, "ab-ac");
        steps('d', "(a+b)*c", 0, "a*c+b*c");
        steps('d', "(a-b)c", 0, "ac-bc");
        steps('d', "(a+b)*(c-d)", 0, "(a+b)*c-(a+b)*d");
        steps('d', "(a+b)(c+d)", 0, "(a+b)c+(a+b)d");
        steps('d', "(a+b)c*(d+e)", 0, "(a+b)c*d+(a+b)c*e");
        steps('d', "(a+b)c*d", 1, "(ac+bc)*d");
        steps('d', "x+a(b+c)", 2, "x+(ab+ac)");
        steps('d', "2*(-a+b)", 0, "2*-a+2*b");
        steps('d', "2(-a+b)", 0, "2(-a)+2b");
        never('d', "a/(b+c)", "(a+b)/c", "(a+b)^c", "a^(b+c)", "a*b", "a(b=c)", "a+b", "-(a+b)", "f(a+b)", "a*-(b+c)", "a*(b+c)!", "a");
        FormulaKiln full = Kit.kiln("(" + "+".repeat(23) + ")*(1+" + "+".repeat(22) + "a)");
        Kit.due("size", full.size(0), 95);
        Kit.fails("more than 99 nodes", UNSUPPORTED, () -> full.step(0, 'd'));
        // The left part has 47 nodes, and is there twice behind the step.
        FormulaKiln exact = Kit.kiln("(" + "+".repeat(23) + ")*(1+2)");
        Kit.due("size", exact.size(0), 51);
        Kit.due("just 99 nodes", exact.step(0, 'd'), 0);
        Kit.due("size", exact.size(0), 99);
        FormulaKiln over = Kit.kiln("(" + "+".repeat(23) + ")*(1+-2)");
        Kit.fails("just 100 nodes", UNSUPPORTED, () -> over.step(0, 'd'));
        Kit.due("size as it was", over.size(0), 52);
    }

    private static void says(String signs, String due) {
        Kit.due("spoken " + signs, Kit.spoken(Kit.kiln(signs), 0), due);
    }

    private static void speech(Sentences sentences) {
        sentences.says("Speech", "A formula is spoken in words");
        String kinds = "+-*./^_!~|=<>";
        String[] rows = {"a+b", "a-b", "a*b", "ab", "a/b", "a^b", "a_b", "a!", "-a", "|a|", "a=b", "a<b", "a>b"};
        for (int k = 0; k < kinds.length(); k++) {
            boolean isSingle = "!~|".indexOf(kinds.charAt(k)) >= 0;
            says(rows[k], (k + 1) + " 100" + (isSingle ? "" : " 101"));
        }
        says("?", "14");
        says("S(k,1,2,3)", "15 110 1001 1002 1003");
        says("S(a,b,c,z)", "15 100 101 102 125");
        says("f(a)", "16 100 19");
        says("g(a)", "17 100 19");
        says("h(a)", "18 100 19");
        says("f(a,b)", "16 100 101 19");
        says("f(a,b,c)", "16 100 101 102");
        says("f(f(a,b),g(c,d,e))", "16 16 100 101 19 17 102 103 104 19");
        says("f(a,b,f(c))", "16 100 101 16 102 19");
        says("f(f(a))+b", "1 16 16 100 19 19 101");
        says("0", "1000");
        says("9999", "10999");
        says("12345", "4 2234 1005");
        says("a", "100");
        says("z", "125");
        says("a+b*c", "1 100 3 101 102");
    }

    private static void inShort(String signs, int words, int shortWords) {
        FormulaKiln kiln = Kit.kiln(signs);
        Kit.due("words of " + signs, kiln.words(0, false), words);
        Kit.due("words in short of " + signs, kiln.words(0, true), shortWords);
        for (int index = 0; index < words; index++) {
            Kit.due("word " + index + " is 19", kiln.word(0, index) == 19, index >= shortWords || isInnerEnd(signs, index));
        }
        Kit.fails("word " + words, INDEX, () -> kiln.word(0, words));
    }

    private static boolean isInnerEnd(String signs, int index) {
        return signs.equals("f(a)+b") && index == 3 || signs.equals("f(g(a),b)") && index == 3;
    }

    private static void speechInShort(Sentences sentences) {
        sentences.says("Speech", "In short, words 19 at the very end");
        inShort("a", 1, 1);
        inShort("f(a)", 3, 2);
        inShort("f(a,b)", 4, 3);
        inShort("f(a,b,c)", 4, 4);
        inShort("f(g(h(a)))", 7, 4);
        inShort("f(a)+b", 5, 5);
        inShort("b+f(a)", 5, 4);
        inShort("f(g(a),b)", 6, 5);
        inShort("f(a,b,g(c))", 6, 5);
        inShort("S(i,1,2,f(i))", 7, 6);
        inShort("19", 1, 1);
    }

    private static void hears(String due, int... words) {
        FormulaKiln kiln = new FormulaKiln();
        Kit.say(kiln, words);
        Kit.due(words.length + " words", Kit.text(kiln, kiln.hear()), due);
        Kit.sound(kiln, 1);
    }

    private static void misheard(int... words) {
        FormulaKiln kiln = new FormulaKiln();
        Kit.say(kiln, words);
        Kit.fails(java.util.Arrays.toString(words), UNSUPPORTED, kiln::hear);
        Kit.due("the words stay", kiln.hush(), words.length);
        Kit.say(kiln, 16, 100);
        Kit.due("hearing behind them", Kit.text(kiln, kiln.hear()), "f(a)");
        Kit.sound(kiln, 1);
    }

    private static void hearing(Sentences sentences) {
        sentences.says("Speech", "To hear takes the words that were said");
        hears("a", 100);
        hears("z", 125);
        hears("0", 1000);
        hears("9999", 10999);
        hears("?", 14);
        hears("a+b", 1, 100, 101);
        hears("S(a,b,c,d)", 15, 100, 101, 102, 103);
        hears("(a=b)*(c<d)", 3, 11, 100, 101, 12, 102, 103);
        hears("(-a)!", 8, 9, 100);
        hears("|a(|b|)|", 10, 4, 100, 10, 101);
        misheard();
        misheard(1);
        misheard(1, 100);
        misheard(100, 101);
        misheard(14, 14);
        misheard(1, 100, 101, 102);
        misheard(9);
        misheard(15);
        misheard(15, 100);
        misheard(15, 100, 101);
        misheard(15, 100, 101, 102);
        misheard(15, 100, 101, 102, 103, 104);
        misheard(15, 1, 100, 101, 102);
        misheard(15, 1000, 1, 2, 3);
        misheard(15, 14, 100, 101, 102);
        misheard(15, 15, 100, 101, 102, 103);
        FormulaKiln kiln = new FormulaKiln();
        for (int k = 1; k <= 150; k++) {
            Kit.due("word " + k, kiln.say(9), k);
        }
        Kit.fails("word 151", STATE, () -> kiln.say(14));
        Kit.fails("150 words that are no formula", UNSUPPORTED, kiln::hear);
        Kit.due("150 words", kiln.hush(), 150);
        Kit.due("150 words, 99 nodes", kiln.size(nested(kiln, 98, 51).hear()), 99);
        Kit.due("99 words, 99 nodes", kiln.size(nested(kiln, 98, 0).hear()), 99);
        Kit.fails("150 words, 100 nodes", STATE, () -> nested(kiln, 99, 50).hear());
        Kit.due("150 words stay", kiln.hush(), 150);
    }

    /** Applied letters, each with the next one alone, the last one with a hole, and some of their ends. */
    private static FormulaKiln nested(FormulaKiln kiln, int letters, int ends) {
        for (int k = 0; k < letters; k++) {
            kiln.say(16);
        }
        kiln.say(14);
        for (int k = 0; k < ends; k++) {
            kiln.say(19);
        }
        return kiln;
    }

    private static void hearingEnds(Sentences sentences) {
        sentences.says("Speech", "To hear takes the words that were said");
        hears("f(a)", 16, 100, 19);
        hears("f(a)", 16, 100);
        hears("f(a,b)", 16, 100, 101, 19);
        hears("f(a,b)", 16, 100, 101);
        hears("f(a,b,c)", 16, 100, 101, 102);
        hears("f(g(h(a)))", 16, 17, 18, 100);
        hears("f(g(h(a)))", 16, 17, 18, 100, 19);
        hears("f(g(h(a)))", 16, 17, 18, 100, 19, 19);
        hears("f(g(h(a)))", 16, 17, 18, 100, 19, 19, 19);
        hears("f(g(a,b,c),d)", 16, 17, 100, 101, 102, 103);
        hears("f(g(a),b)", 16, 17, 100, 19, 101);
        hears("a+f(b)", 1, 100, 16, 101);
        hears("f(a,b,g(c))", 16, 100, 101, 17, 102);
        hears("S(i,1,2,f(i))", 15, 108, 1001, 1002, 16, 108);
        misheard(19);
        misheard(16);
        misheard(16, 19);
        misheard(16, 19, 100);
        misheard(16, 100, 19, 19);
        misheard(16, 100, 101, 102, 19);
        misheard(16, 100, 101, 102, 103);
        misheard(16, 17, 18, 100, 19, 19, 19, 19);
        misheard(16, 17, 19, 100);
        misheard(1, 16, 100);
        misheard(1, 16, 100, 101);
        misheard(1, 16, 100, 19);
        misheard(16, 1, 100);
        misheard(16, 1, 100, 19);
        misheard(1, 19, 100, 101);
        misheard(100, 19);
        misheard(9, 19);
        misheard(15, 19, 100, 101, 102);
        misheard(15, 100, 16, 101);
        misheard(16, 15);
        misheard(16, 100, 15);
        misheard(16, 100, 15, 100);
    }

    /** With formulas, edits, a caret, signs and words, so that a change could be seen anywhere. */
    private static FormulaKiln busy() {
        FormulaKiln kiln = Kit.kiln("S(i,1,2,i*x)+a", "b+?", "7", "S(x,1,2,x)");
        kiln.rename(0, 1, 'k');
        kiln.caret(1, 2);
        Kit.type(kiln, "d");
        kiln.put();
        kiln.caret(0, 5);
        Kit.type(kiln, "c+");
        Kit.say(kiln, 1, 100, 101);
        return kiln;
    }

    private static FormulaKiln full() {
        FormulaKiln kiln = busy();
        for (int k = 4; k < 8; k++) {
            kiln.hush();
            Kit.say(kiln, 9, 100);
            kiln.hear();
        }
        Kit.say(kiln, 9, 101);
        return kiln;
    }

    /** With signs ahead of which what is typed so far is gone. */
    private static FormulaKiln typed(FormulaKiln kiln, String signs) {
        kiln.wipe();
        Kit.type(kiln, signs);
        return kiln;
    }

    private static FormulaKiln said(FormulaKiln kiln, int times, int... words) {
        kiln.hush();
        for (int k = 0; k < times; k++) {
            Kit.say(kiln, words);
        }
        return kiln;
    }

    private static void busyStays(String what, Class<? extends RuntimeException> due, Consumer<FormulaKiln> call) {
        Kit.changesNothing(what, due, RuleTerms::busy, call);
    }

    private static void nothingChanges(Sentences sentences) {
        sentences.says("Exceptions", "A method that throws an exception changes nothing");
        busyStays("type", ARGUMENT, kiln -> kiln.type('A'));
        Kit.changesNothing("type", STATE, () -> typed(busy(), "a".repeat(60)), kiln -> kiln.type('b'));
        Kit.changesNothing("parse", UNSUPPORTED, () -> typed(busy(), "a)b"), FormulaKiln::parse);
        Kit.changesNothing("parse", STATE, RuleTerms::full, FormulaKiln::parse);
        Kit.changesNothing("parse", STATE, () -> typed(busy(), "+".repeat(50)), FormulaKiln::parse);
        busyStays("size", INDEX, kiln -> kiln.size(4));
        busyStays("kind", INDEX, kiln -> kiln.kind(0, 8));
        busyStays("value", INDEX, kiln -> kiln.value(0, 99));
        busyStays("value", NO_SUCH, kiln -> kiln.value(0, 0));
        busyStays("parts", INDEX, kiln -> kiln.parts(0, -1));
        busyStays("part", INDEX, kiln -> kiln.part(0, 0, 2));
        busyStays("length", INDEX, kiln -> kiln.length(-1));
        busyStays("sign", INDEX, kiln -> kiln.sign(0, 99));
        busyStays("box", INDEX, kiln -> kiln.box(0, 0, 99, 'w'));
        busyStays("box", ARGUMENT, kiln -> kiln.box(0, 4, 0, 'w'));
        busyStays("box", ARGUMENT, kiln -> kiln.box(0, 0, 0, 'x'));
        busyStays("lines", INDEX, kiln -> kiln.lines(9, 99));
        busyStays("lines", ARGUMENT, kiln -> kiln.lines(0, 31));
        busyStays("binder", INDEX, kiln -> kiln.binder(0, 99));
        busyStays("binder", UNSUPPORTED, kiln -> kiln.binder(0, 0));
        busyStays("free", INDEX, kiln -> kiln.free(4, 'a'));
        busyStays("free", ARGUMENT, kiln -> kiln.free(0, 'A'));
        busyStays("areAlike", INDEX, kiln -> kiln.areAlike(0, 4));
        busyStays("found", INDEX, kiln -> kiln.found(4, 0));
        busyStays("unlike", INDEX, kiln -> kiln.unlike(4));
        busyStays("words", INDEX, kiln -> kiln.words(4, true));
        busyStays("word", INDEX, kiln -> kiln.word(0, 99));
        busyStays("say", ARGUMENT, kiln -> kiln.say(20));
        Kit.changesNothing("say", STATE, () -> said(busy(), 150, 9), kiln -> kiln.say(14));
        Kit.changesNothing("hear", UNSUPPORTED, () -> said(busy(), 1, 16, 100, 19, 19), FormulaKiln::hear);
        Kit.changesNothing("hear", UNSUPPORTED, () -> said(busy(), 1, 15), FormulaKiln::hear);
        Kit.changesNothing("hear", STATE, RuleTerms::full, FormulaKiln::hear);
        Kit.changesNothing("hear", STATE, RuleTerms::hundred, FormulaKiln::hear);
        busyStays("holeShare", INDEX, kiln -> kiln.holeShare(4));
        Kit.changesNothing("meanSize", ARITHMETIC, () -> typed(said(new FormulaKiln(), 2, 14), "a"), FormulaKiln::meanSize);
    }

    /** With words for a formula of 100 nodes. */
    private static FormulaKiln hundred() {
        FormulaKiln kiln = said(busy(), 99, 9);
        kiln.say(14);
        return kiln;
    }

    private static FormulaKiln withoutCaret() {
        FormulaKiln kiln = busy();
        kiln.undo();
        return kiln;
    }

    private static void nothingChangesInEdits(Sentences sentences) {
        sentences.says("Exceptions", "A method that throws an exception changes nothing");
        busyStays("caret", INDEX, kiln -> kiln.caret(4, 0));
        busyStays("caret", INDEX, kiln -> kiln.caret(2, 1));
        busyStays("move", ARGUMENT, kiln -> kiln.move('x'));
        busyStays("move", NO_SUCH, kiln -> kiln.move('d'));
        Kit.changesNothing("move", NO_SUCH, RuleTerms::withoutCaret, kiln -> kiln.move('d'));
        Kit.changesNothing("put", NO_SUCH, RuleTerms::withoutCaret, FormulaKiln::put);
        Kit.changesNothing("put", UNSUPPORTED, () -> typed(busy(), "a)b"), FormulaKiln::put);
        Kit.changesNothing("put", UNSUPPORTED, () -> typed(busy(), "+".repeat(49)), FormulaKiln::put);
        Kit.changesNothing("put", UNSUPPORTED, () -> typed(busy(), "+".repeat(60)), FormulaKiln::put);
        Kit.changesNothing("take", NO_SUCH, RuleTerms::withoutCaret, FormulaKiln::take);
        Kit.changesNothing("undo", NO_SUCH, () -> typed(Kit.kiln("a"), "b"), FormulaKiln::undo);
        Kit.changesNothing("undo", NO_SUCH, () -> {
            FormulaKiln kiln = Kit.kiln("a+b");
            kiln.caret(0, 1);
            return typed(kiln, "c");
        }, FormulaKiln::undo);
        busyStays("rename", INDEX, kiln -> kiln.rename(0, 99, 'a'));
        busyStays("rename", ARGUMENT, kiln -> kiln.rename(0, 1, 'A'));
        busyStays("rename", UNSUPPORTED, kiln -> kiln.rename(0, 0, 'a'));
        busyStays("rename", UNSUPPORTED, kiln -> kiln.rename(0, 1, 'x'));
        busyStays("set", INDEX, kiln -> kiln.set(4, 'a', 0));
        busyStays("set", INDEX, kiln -> kiln.set(0, 'a', 4));
        busyStays("set", ARGUMENT, kiln -> kiln.set(0, 'A', 1));
        Kit.changesNothing("set", UNSUPPORTED, RuleTerms::large, kiln -> kiln.set(4, 'x', 5));
        Kit.changesNothing("set", UNSUPPORTED, RuleTerms::lettered, kiln -> kiln.set(4, 'x', 5));
        busyStays("step", INDEX, kiln -> kiln.step(4, 'z'));
        busyStays("step", ARGUMENT, kiln -> kiln.step(0, 'q'));
        busyStays("step", NO_SUCH, kiln -> kiln.step(0, 'z'));
        Kit.changesNothing("step", UNSUPPORTED, RuleTerms::large, kiln -> kiln.step(6, 'd'));
    }

    private static FormulaKiln large() {
        FormulaKiln kiln = busy();
        kiln.wipe();
        Kit.parse(kiln, "S(a,1,2,xxxxx)");
        Kit.parse(kiln, "a" + "+".repeat(10));
        Kit.parse(kiln, "(" + "+".repeat(24) + ")(1+" + "+".repeat(22) + ")");
        return typed(kiln, "c+");
    }

    /** An inner 'S' finds no letter, when the outer one was renamed already. */
    private static FormulaKiln lettered() {
        FormulaKiln kiln = busy();
        kiln.wipe();
        Kit.parse(kiln, "S(a,1,2,S(b,1,2,xcdefghijklmnopqrstuvwy))");
        Kit.parse(kiln, "a+b");
        return typed(kiln, "c+");
    }

    private static void firstExceptions(Sentences sentences) {
        sentences.says("Exceptions", "If several exceptions apply");
        FormulaKiln full = typed(full(), "a".repeat(60));
        Kit.fails("type: no such sign, ahead of 60", ARGUMENT, () -> full.type('A'));
        Kit.fails("parse: a fault, ahead of 8", UNSUPPORTED, () -> typed(full, "a)").parse());
        Kit.fails("parse: a fault, ahead of 99 nodes", UNSUPPORTED, () -> typed(busy(), "+".repeat(59) + ")").parse());
        Kit.fails("parse: 8, and 99 nodes", STATE, () -> typed(full, "+".repeat(60)).parse());
        Kit.fails("value: no node, ahead of the kind", INDEX, () -> full.value(0, 99));
        Kit.fails("box: no formula, ahead of style and letter", INDEX, () -> full.box(8, 4, 0, 'x'));
        Kit.fails("box: no node, ahead of style and letter", INDEX, () -> full.box(0, 4, 99, 'x'));
        Kit.fails("box: no node, ahead of the style", INDEX, () -> full.box(0, -1, -1, 'w'));
        Kit.fails("box: no node, ahead of the letter", INDEX, () -> full.box(0, 0, 8, 'z'));
        Kit.fails("lines: no formula, ahead of the width", INDEX, () -> full.lines(8, 31));
        Kit.fails("move: no such way, ahead of nowhere", ARGUMENT, () -> withoutCaret().move('x'));
        Kit.fails("move: no such way, ahead of the caret", ARGUMENT, () -> full.move('D'));
        Kit.fails("put: nowhere, ahead of the fault", NO_SUCH, () -> typed(withoutCaret(), ")").put());
        Kit.fails("put: nowhere, ahead of 99 nodes", NO_SUCH, () -> typed(withoutCaret(), "+".repeat(60)).put());
        Kit.fails("binder: no node, ahead of the kind", INDEX, () -> full.binder(0, 99));
        Kit.fails("free: no formula, ahead of the letter", INDEX, () -> full.free(8, 'A'));
        Kit.fails("rename: no formula, ahead of the letter", INDEX, () -> full.rename(8, 0, 'A'));
        Kit.fails("rename: no node, ahead of the letter", INDEX, () -> full.rename(0, 99, 'A'));
        Kit.fails("rename: no letter, ahead of the kind", ARGUMENT, () -> full.rename(0, 0, 'A'));
        Kit.fails("set: no formula, ahead of the letter", INDEX, () -> full.set(8, 'A', 0));
        Kit.fails("set: no other formula, ahead of the letter", INDEX, () -> full.set(0, 'A', 8));
        Kit.fails("step: no formula, ahead of the rule", INDEX, () -> full.step(8, 'q'));
        Kit.fails("step: no rule, ahead of where it can be done", ARGUMENT, () -> full.step(0, 'Z'));
        Kit.fails("say: no such word, ahead of 150", ARGUMENT, () -> said(full, 150, 9).say(20));
        Kit.fails("hear: no formula, ahead of 8", UNSUPPORTED, () -> said(full, 1, 1).hear());
        Kit.fails("hear: no formula, ahead of 99 nodes", UNSUPPORTED, () -> said(busy(), 150, 9).hear());
        Kit.fails("hear: no formula, ahead of 99 nodes", UNSUPPORTED, () -> said(busy(), 120, 14).hear());
        Kit.fails("hear: 8, and 99 nodes", STATE, () -> {
            said(full, 99, 9).say(14);
            full.hear();
        });
    }
}
