import java.lang.reflect.InvocationTargetException;
import java.lang.reflect.Method;
import java.lang.reflect.Modifier;
import java.util.ArrayList;
import java.util.Arrays;
import java.util.HashMap;
import java.util.List;
import java.util.Map;
import java.util.Objects;
import java.util.Random;
import java.util.TreeMap;

/**
 * "A method that throws an exception changes nothing": two commons get the same calls, which chance makes up (fixed
 * seeds), but the second one not those that the first one refuses. Whatever is asked later, they answer alike. What is
 * thrown is one of the exceptions that the document tells for the method, whatever the operands are.
 */
public final class NothingChangesTest {
    private static final int RUNS = 150;
    private static final int CALLS = 420;

    /** For each method what its operands are; see operand(). */
    private static final Map<String, String> OPERANDS = new TreeMap<>(Map.ofEntries(Map.entry("node", "Kxxx"),
        Map.entry("stage", "nxx"), Map.entry("stageData", "nux"), Map.entry("unstage", ""), Map.entry("define", ""),
        Map.entry("update", ""), Map.entry("fault", ""), Map.entry("faultName", ""), Map.entry("todo", ""),
        Map.entry("todoAt", "i"), Map.entry("kindOf", "n"), Map.entry("hash", "n"), Map.entry("hashAnew", "n"),
        Map.entry("needs", "nn"), Map.entry("needed", "n"), Map.entry("alias", "nn"), Map.entry("unname", "n"),
        Map.entry("definitions", ""), Map.entry("collect", ""), Map.entry("patches", ""), Map.entry("patchSize", "p"),
        Map.entry("apply", "p"), Map.entry("compose", "pp"), Map.entry("mergePatches", "pp"), Map.entry("commit", ""),
        Map.entry("branch", ""), Map.entry("goTo", "b"), Map.entry("merge", "b"), Map.entry("conflictAt", "i"),
        Map.entry("ancestor", "kk"), Map.entry("commits", ""), Map.entry("hashIn", "kn"), Map.entry("work", "n"),
        Map.entry("writeValue", "n"), Map.entry("test", "n"), Map.entry("tests", ""), Map.entry("job", "mn"),
        Map.entry("goOn", "m"), Map.entry("jobState", "j"), Map.entry("outcome", "j"), Map.entry("result", "j"),
        Map.entry("retry", "jm"), Map.entry("down", "m"), Map.entry("up", "m"), Map.entry("lacking", "mn"),
        Map.entry("traffic", ""), Map.entry("writeTerm", "n"), Map.entry("writeType", "n"), Map.entry("lineAt", "i"),
        Map.entry("isSound", ""), Map.entry("namedShare", ""), Map.entry("meanNeeded", "")));
    private static final List<String> NAMES = new ArrayList<>(OPERANDS.keySet());
    private static final Map<String, Method> METHODS = methods();
    private static final Map<String, Integer> REFUSED = new TreeMap<>();

    private final Random random;
    private final HashedCommons one = new HashedCommons();
    private final HashedCommons other = new HashedCommons();
    private final List<String> log = new ArrayList<>();
    private final List<int[]> terms = new ArrayList<>();
    private final List<Integer> constructors = new ArrayList<>();
    /** Methods that are called often in this run, so that it comes to its limits. */
    private final List<String> often = new ArrayList<>();
    private int nodes;
    /** Whether operands can be any ints in this run. */
    private boolean isWild;
    private boolean isWrong;

    private NothingChangesTest(long seed) {
        random = new Random(seed);
    }

    private static Map<String, Method> methods() {
        Map<String, Method> all = new HashMap<>();
        for (Method method : HashedCommons.class.getDeclaredMethods()) {
            if (Modifier.isPublic(method.getModifiers())) {
                all.put(method.getName(), method);
            }
        }
        return all;
    }

    /** The answer, or the class of the exception. */
    private static Object answer(HashedCommons on, String name, Object... operands) {
        try {
            return METHODS.get(name).invoke(on, operands);
        } catch (InvocationTargetException e) {
            return e.getCause().getClass();
        } catch (IllegalAccessException e) {
            throw new IllegalStateException(e);
        }
    }

    private Object call(String name, Object... operands) {
        Object first = answer(one, name, operands);
        log.add(name + Arrays.toString(operands) + " -> " + first);
        if (first instanceof Class) {
            if (!Arrays.asList(METHODS.get(name).getExceptionTypes()).contains(first)) {
                alike(name + " throws what is not told", first, null);
            }
            REFUSED.merge(name + " " + ((Class<?>) first).getSimpleName(), 1, Integer::sum);
        } else {
            alike(name, first, answer(other, name, operands));
        }
        return first;
    }

    private void alike(String what, Object first, Object second) {
        if (!isWrong && !Objects.equals(first, second)) {
            isWrong = true;
            System.out.println(String.join("\n", log));
            System.out.println(what + ": " + first + ", but without the refused calls " + second);
        }
    }

    private int node(char kind, int a, int b, int c) {
        Object made = call("node", kind, a, b, c);
        nodes = made instanceof Integer ? (Integer) made + 1 : nodes;
        return made instanceof Integer ? (Integer) made : 0;
    }

    private void term(int type, int term) {
        terms.add(new int[] {type, term});
    }

    /** Nodes for terms that mostly have their types. */
    private void tell() {
        int t = node('j', 0, 0, 0);
        int f = node('>', t, t, 0);
        int v = node('v', 0, 0, 0);
        int[] refs = new int[6];
        for (int name = 0; name < 6; name++) {
            refs[name] = node('r', name, 0, 0);
            int n = node('i', name - 2, 0, 0);
            term(t, n);
            term(t, refs[name]);
            term(t, node('o', refs[random.nextInt(name + 1)], n, name % 5));
            term(f, node('f', t, node('o', v, n, 0), 0));
            term(f, refs[name]);
            term(t, node('a', refs[name], n, 0));
        }
        term(f, node('f', t, node('a', refs[1], v, 0), 0));
        int d = node('d', 6, 0, 0);
        int plus = node('+', -1, -1, 0);
        constructors.add(plus);
        constructors.add(node('+', t, plus, 0));
        constructors.add(node('+', d, plus, 0));
        int five = plus;
        for (int i = 0; i < 4; i++) {
            five = node('+', t, five, 0);
        }
        constructors.add(five);
        term(d, node('m', 6, 0, -1));
        term(node('>', d, t, 0), node('f', d, node('i', 9, 0, 0), 0));
    }

    private int small(int count) {
        return random.nextInt(12) == 0 ? (random.nextBoolean() ? -1 : count) : random.nextInt(Math.max(count, 1));
    }

    private static int anyInt(Random random) {
        int[] edges = {Integer.MIN_VALUE, Integer.MAX_VALUE, -1, 0, 1 << random.nextInt(32), -(1 << random.nextInt(32))};
        return random.nextInt(3) == 0 ? random.nextInt() : edges[random.nextInt(edges.length)];
    }

    private Object operand(char what) {
        if (isWild && random.nextInt(3) == 0) {
            return what == 'K' ? (Object) (char) random.nextInt() : what == 'u' ? (Object) random.nextBoolean()
                : (Object) anyInt(random);
        }
        switch (what) {
            case 'K':
                return "j>divfao?lrmcb+z".charAt(random.nextInt(16));
            case 'x':
                return random.nextInt(8) == 0 ? small(300) : small(nodes);
            case 'u':
                return random.nextBoolean();
            case 'n':
                return random.nextInt(4) == 0 ? small(26) : random.nextInt(8);
            case 'p':
                return small(one.patches());
            case 'b':
                return random.nextInt(6);
            case 'k':
                return small(one.commits());
            case 'j':
                return random.nextInt(12) - 1;
            case 'm':
                return small(3);
            default:
                return random.nextInt(8) == 0 ? small(200) : random.nextInt(4) - 1;
        }
    }

    private void callAny() {
        callOne(random.nextInt(3) == 0 ? NAMES.get(random.nextInt(NAMES.size())) : often.get(random.nextInt(often.size())));
    }

    /** Comes to a limit, mostly, and goes on calling. */
    private void callUntilRefused() {
        String name = List.of("commit", "node", "job", "update", "compose", "mergePatches", "merge", "branch").get(random.nextInt(8));
        int times = name.equals("node") ? 500 : 45;
        for (int i = 0; i < times && !isWrong; i++) {
            if (name.equals("update")) {
                call("stage", random.nextInt(8), terms.get(0)[0], terms.get(0)[1]);
            }
            callOne(name);
        }
    }

    private void callOne(String name) {
        String roles = OPERANDS.get(name);
        Object[] operands = new Object[roles.length()];
        for (int i = 0; i < operands.length; i++) {
            operands[i] = operand(roles.charAt(i));
        }
        if (name.equals("stage") && random.nextInt(6) != 0) {
            int[] term = terms.get(random.nextInt(terms.size()));
            operands[1] = term[0];
            operands[2] = term[1];
        }
        if (name.equals("stageData") && random.nextInt(6) != 0) {
            operands[0] = random.nextInt(3) + 6;
            operands[2] = constructors.get(random.nextInt(constructors.size()));
        }
        if (name.equals("node")) {
            node((Character) operands[0], (Integer) operands[1], (Integer) operands[2], (Integer) operands[3]);
        } else {
            call(name, operands);
        }
    }

    private void stageAndDefine() {
        int[] term = terms.get(random.nextInt(terms.size()));
        call("stage", random.nextInt(8), term[0], term[1]);
        call(random.nextInt(3) == 0 ? "update" : "define");
    }

    private void probe(String name, Object... operands) {
        alike(name + Arrays.toString(operands), answer(one, name, operands), answer(other, name, operands));
    }

    private void probeLine() {
        for (int i = 0; i < 201; i++) {
            probe("lineAt", i);
        }
    }

    /** All that can be asked, what changes nothing first. */
    private void compareAll() {
        probeLine();
        for (String name : NAMES) {
            String roles = OPERANDS.get(name);
            if (roles.isEmpty() && !List.of("unstage", "define", "update", "collect", "commit", "branch").contains(name)) {
                probe(name);
            }
        }
        for (int i = 0; i < 40; i++) {
            probe("todoAt", i);
            probe("conflictAt", i);
            probe("patchSize", i);
            probe("jobState", i);
            probe("outcome", i);
            probe("result", i);
            for (int name = 0; name < 26; name++) {
                probe("hashIn", i, name);
                probe("ancestor", i, name);
            }
        }
        for (int branch = 4; branch >= 0; branch--) {
            probe("goTo", branch);
            for (int name = 0; name < 26; name++) {
                for (String method : List.of("kindOf", "hash", "hashAnew", "needed", "work", "test")) {
                    probe(method, name);
                }
                for (String method : List.of("writeTerm", "writeType", "writeValue")) {
                    probe(method, name);
                    probe("lineAt", 1);
                }
                probe("lacking", name % 3, name);
            }
        }
        changeAll();
    }

    private void changeAll() {
        probe("node", 'j', 0, 0, 0);
        probe("unstage");
        probe("stageData", 25, true, constructors.get(0));
        probe("define");
        probe("hash", 25);
        for (int machine = 0; machine < 3; machine++) {
            probe("up", machine);
            probe("goOn", machine);
            probe("job", machine, 0);
        }
        probe("branch");
        probe("commit");
        for (int i = 0; i < 30; i++) {
            probe("retry", i, i % 3);
        }
        for (int patch = 0; patch < 20; patch++) {
            probe("apply", patch);
            probe("todo");
        }
        probe("collect");
        probe("definitions");
        probe("isSound");
    }

    private boolean run() {
        for (int i = 0; i < 8; i++) {
            often.add(NAMES.get(random.nextInt(NAMES.size())));
        }
        often.addAll(List.of("stage", "stageData", "define", "update", "unstage"));
        isWild = random.nextInt(6) == 0;
        tell();
        for (int i = 0; i < CALLS && !isWrong; i++) {
            if (random.nextInt(250) == 0) {
                callUntilRefused();
            } else if (random.nextInt(5) == 0) {
                stageAndDefine();
            } else {
                callAny();
            }
        }
        compareAll();
        return isWrong;
    }

    /** Arguments, if there are some: how many runs, the first seed, and whatever, to tell what was refused. */
    public static void main(String[] args) {
        int runs = args.length > 0 ? Integer.parseInt(args[0]) : RUNS;
        long first = args.length > 1 ? Long.parseLong(args[1]) : 1;
        for (long seed = first; seed < first + runs; seed++) {
            if (new NothingChangesTest(seed).run()) {
                System.out.println("the run with the seed " + seed + " is wrong");
                System.exit(1);
            }
        }
        if (args.length > 2) {
            REFUSED.forEach((k, v) -> System.out.println(v + "\t" + k));
        }
        System.out.println("in all " + runs + " runs refused calls change nothing");
    }
}
