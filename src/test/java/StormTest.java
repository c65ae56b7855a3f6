import java.lang.reflect.InvocationTargetException;
import java.lang.reflect.Method;
import java.util.ArrayList;
import java.util.Comparator;
import java.util.List;
import java.util.Random;

/** The same random calls go to the engine and to the oracle: answers and exceptions must be the same. */
public final class StormTest {
    private static final String SIGNS = "0123456789abcdefghijklmnopqrstuvwxyz+-*/^_!()|=<>,?S ";
    private static final String[] PIECES = {"S(i,1,n,", "S(a,", "f(", "g(", "h(x,", "|", "||", "(", ")", "+", "-", "*", "/",
        "^", "_", "!", "=", "<", "?", " ", "1", "0", "23", "12345", "a", "b", "x", "i", "f", "f (", "x+0", "1x", "--a",
        "2*3", "a(b+c)", "S(x,0,9,x^2)", ",", "|x|", "-", ""};
    private static final int RUNS = 800;

    private static final List<Method> METHODS = methods();
    private static int wrong = 0;
    private static int calls = 0;
    private static int thrown = 0;

    private static List<Method> methods() {
        List<Method> methods = new ArrayList<>();
        for (Method method : FormulaKiln.class.getDeclaredMethods()) {
            if (java.lang.reflect.Modifier.isPublic(method.getModifiers())) {
                methods.add(method);
            }
        }
        methods.sort(Comparator.comparing(Method::getName));
        return methods;
    }

    public static void main(String[] args) throws Exception {
        int runs = args.length > 0 ? Integer.parseInt(args[0]) : RUNS;
        int begin = args.length > 1 ? Integer.parseInt(args[1]) : 0;
        for (int run = begin; run < begin + runs && wrong < 10; run++) {
            storm(new Random(run), run);
        }
        System.out.println("  StormTest: " + calls + " calls, " + thrown + " of them thrown, " + wrong + " wrong");
        if (wrong != 0) {
            System.exit(1);
        }
    }

    private static void storm(Random random, int run) throws Exception {
        FormulaKiln kiln = new FormulaKiln();
        Oracle oracle = new Oracle();
        List<String> told = new ArrayList<>();
        int wild = random.nextInt(4);
        for (int call = 0; call < 512; ) {
            int before = told.size();
            int choice = random.nextInt(10);
            if (choice < 2) {
                typePieces(kiln, oracle, random, told);
            } else if (choice == 2) {
                sayFormula(kiln, oracle, random, told);
            } else {
                Method method = METHODS.get(random.nextInt(METHODS.size()));
                compare(kiln, oracle, method, arguments(method, random, wild), told);
            }
            call += Math.max(1, told.size() - before);
            if (wrong > 0) {
                System.out.println("  run " + run + ": " + String.join(", ", told));
                return;
            }
        }
        for (int formula = 0; formula < 8; formula++) {
            compareWhole(kiln, oracle, formula, told);
        }
    }

    private static Method method(String name) {
        for (Method method : METHODS) {
            if (method.getName().equals(name)) {
                return method;
            }
        }
        throw new IllegalArgumentException(name);
    }

    private static void typePieces(FormulaKiln kiln, Oracle oracle, Random random, List<String> told) throws Exception {
        StringBuilder signs = new StringBuilder();
        for (int k = random.nextInt(12); k >= 0; k--) {
            if (random.nextInt(6) == 0) {
                signs.append(SIGNS.charAt(random.nextInt(SIGNS.length())));
            } else {
                signs.append(PIECES[random.nextInt(PIECES.length)]);
            }
        }
        compare(kiln, oracle, method("wipe"), new Object[0], told);
        for (char sign : signs.toString().toCharArray()) {
            compare(kiln, oracle, method("type"), new Object[] {sign}, told);
        }
        compare(kiln, oracle, method("fault"), new Object[0], told);
        compare(kiln, oracle, method(random.nextInt(3) == 0 ? "put" : "parse"), new Object[0], told);
    }

    private static void sayFormula(FormulaKiln kiln, Oracle oracle, Random random, List<String> told) throws Exception {
        List<Integer> words = new ArrayList<>();
        grow(words, random, 1 + random.nextInt(40), random.nextInt(3));
        compare(kiln, oracle, method("hush"), new Object[0], told);
        int kept = random.nextInt(4) == 0 ? random.nextInt(words.size() + 1) : words.size();
        for (int k = 0; k < kept; k++) {
            int word = random.nextInt(200) == 0 ? random.nextInt(20) : words.get(k);
            compare(kiln, oracle, method("say"), new Object[] {word}, told);
        }
        compare(kiln, oracle, method("hear"), new Object[0], told);
    }

    private static void grow(List<Integer> words, Random random, int room, int taste) {
        if (room <= 1) {
            int choice = random.nextInt(5);
            int letter = random.nextInt(3) == 0 ? 105 : 100 + random.nextInt(26);
            words.add(choice == 0 ? 14 : choice < 3 ? letter : 1000 + random.nextInt(choice == 3 ? 3 : 10000));
            return;
        }
        int kind = 1 + random.nextInt(18);
        if (taste == 1 && random.nextInt(2) == 0) {
            kind = random.nextInt(2) == 0 ? 4 : 10;
        }
        if (taste == 2 && random.nextInt(2) == 0) {
            kind = random.nextInt(2) == 0 ? 15 : 3;
        }
        if (kind == 14) {
            kind = 1;
        }
        words.add(kind);
        int parts = kind == 8 || kind == 9 || kind == 10 ? 1 : kind == 15 ? 3 : kind > 15 ? 1 + random.nextInt(3) : 2;
        if (kind == 15) {
            words.add(random.nextInt(3) == 0 ? 105 : 100 + random.nextInt(6));
        }
        int left = room - 1;
        for (int k = parts; k > 0; k--) {
            int share = k == 1 ? left : Math.max(1, random.nextInt(Math.max(1, left)));
            grow(words, random, share, taste);
            left = Math.max(1, left - share);
        }
        if (kind > 15 && parts < 3) {
            words.add(19);
        }
    }

    private static Object[] arguments(Method method, Random random, int wild) {
        Class<?>[] types = method.getParameterTypes();
        Object[] values = new Object[types.length];
        for (int k = 0; k < types.length; k++) {
            if (types[k] == boolean.class) {
                values[k] = random.nextBoolean();
            } else if (types[k] == char.class) {
                values[k] = someSign(method.getName(), random);
            } else {
                values[k] = someNumber(method.getName(), k, random, wild);
            }
        }
        return values;
    }

    private static char someSign(String name, Random random) {
        String liked = "";
        if (name.equals("box")) {
            liked = "wabs";
        } else if (name.equals("move")) {
            liked = "udlr";
        } else if (name.equals("step")) {
            liked = "zoncd";
        } else if (name.equals("type")) {
            liked = SIGNS;
        } else {
            liked = "aabcdfixxyz";
        }
        return random.nextInt(12) == 0 ? (char) random.nextInt(300) : liked.charAt(random.nextInt(liked.length()));
    }

    private static int someNumber(String name, int index, Random random, int wild) {
        if (wild == 0 && random.nextInt(10) == 0) {
            int[] odd = {-1, 99, 98, 100, Integer.MAX_VALUE, Integer.MIN_VALUE, 31, 10000, 20, 126, 11000};
            return odd[random.nextInt(odd.length)];
        }
        if (name.equals("lines") && index == 1) {
            return random.nextInt(3) == 0 ? 32 + random.nextInt(10000) : 30 + random.nextInt(200);
        }
        if (name.equals("say")) {
            return random.nextInt(130);
        }
        if (name.equals("box") && index == 1) {
            return random.nextInt(5);
        }
        boolean isFormula = index == 0 || name.equals("set") || name.equals("found") || name.equals("areAlike");
        return isFormula ? random.nextInt(9) : random.nextInt(random.nextInt(3) == 0 ? 100 : 8);
    }

    private static void compareWhole(FormulaKiln kiln, Oracle oracle, int formula, List<String> told) throws Exception {
        Object size = answer(oracle, "size", new Object[] {formula});
        if (!(size instanceof Integer)) {
            return;
        }
        for (int node = 0; node < (Integer) size; node++) {
            for (String name : new String[] {"kind", "value", "parts", "binder"}) {
                compare(kiln, oracle, method(name), new Object[] {formula, node}, told);
            }
            compare(kiln, oracle, method("box"), new Object[] {formula, node % 4, node, "wab".charAt(node % 3)}, told);
        }
        for (String name : new String[] {"length", "unlike", "holeShare"}) {
            compare(kiln, oracle, method(name), new Object[] {formula}, told);
        }
        int length = (Integer) answer(oracle, "length", new Object[] {formula});
        StringBuilder mine = new StringBuilder();
        StringBuilder its = new StringBuilder();
        String due = oracleText(oracle, formula);
        for (int place = 0; place < length; place++) {
            mine.append(kiln.sign(formula, place));
            its.append(due.charAt(place));
        }
        note(its.toString(), mine.toString(), "text of " + formula, told);
        for (int width = 32; width < 300; width += 7) {
            compare(kiln, oracle, method("lines"), new Object[] {formula, width}, told);
        }
    }

    private static String oracleText(Oracle oracle, int formula) {
        StringBuilder text = new StringBuilder();
        for (int place = 0; place < oracle.length(formula); place++) {
            text.append(oracle.sign(formula, place));
        }
        return text.toString();
    }

    private static void compare(FormulaKiln kiln, Oracle oracle, Method method, Object[] arguments, List<String> told)
            throws Exception {
        StringBuilder call = new StringBuilder(method.getName()).append('(');
        for (int k = 0; k < arguments.length; k++) {
            call.append(k == 0 ? "" : ", ").append(arguments[k]);
        }
        told.add(call.append(')').toString());
        calls++;
        Object due = answer(oracle, method.getName(), arguments);
        long ahead = kiln.checksum();
        Object got = answer(kiln, method.getName(), arguments);
        note(due, got, call.toString(), told);
        if (got instanceof Class) {
            thrown++;
            note(ahead, kiln.checksum(), "checksum() behind " + call, told);
        }
    }

    private static void note(Object due, Object got, String what, List<String> told) {
        if (!due.equals(got)) {
            wrong++;
            System.out.println("  " + what + " answered " + got + ", due is " + due);
        }
    }

    private static Object answer(Object engine, String name, Object[] arguments) throws Exception {
        Method method = engine.getClass().getMethod(name, method(name).getParameterTypes());
        try {
            return method.invoke(engine, arguments);
        } catch (InvocationTargetException e) {
            Throwable cause = e.getCause();
            // A message is told by what the machine throws, and by what the oracle finds wrong in itself.
            return cause.getMessage() == null ? cause.getClass() : cause.toString();
        }
    }
}
