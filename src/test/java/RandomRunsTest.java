import java.lang.reflect.InvocationTargetException;
import java.lang.reflect.Method;
import java.util.ArrayList;
import java.util.HashMap;
import java.util.List;
import java.util.Map;
import java.util.Objects;
import java.util.Random;
import java.util.TreeMap;

/** Runs of calls that chance makes up, always the same ones, on the program and on the model. */
public final class RandomRunsTest {
    private static final int RUNS = 150;
    private static final int CALLS = 500;

    private static final Map<String, Method> PROGRAM = methods(HashedCommons.class);
    private static final Map<String, Method> MODEL = methods(Model.class);

    private final Random random;
    private final HashedCommons program = new HashedCommons();
    private final Model model = new Model();
    private final List<String> log = new ArrayList<>();
    private final Map<List<Integer>, Integer> told = new HashMap<>();
    /** The types of the terms that are about to be staged, by their names. */
    private final Map<Integer, String> planned = new TreeMap<>();
    private final Map<Integer, List<String>> plannedData = new TreeMap<>();
    private int calls;
    private boolean isWrong;
    private static final List<String> SMALL = List.of("update", "apply", "todo", "merge", "mergePatches", "work",
        "test", "outcome", "fault", "collect", "goOn", "compose", "isSound");
    private static final Map<String, Integer> SEEN = new TreeMap<>();

    private RandomRunsTest(long seed) {
        random = new Random(seed);
    }

    private static Map<String, Method> methods(Class<?> of) {
        Map<String, Method> all = new HashMap<>();
        for (Method m : of.getDeclaredMethods()) {
            if (!java.lang.reflect.Modifier.isPrivate(m.getModifiers())) {
                all.put(m.getName(), m);
            }
        }
        return all;
    }

    private static Object answer(Method method, Object on, Object[] args) {
        try {
            return method.invoke(on, args);
        } catch (InvocationTargetException e) {
            return e.getCause().getClass().getSimpleName();
        } catch (IllegalAccessException e) {
            throw new IllegalStateException(e);
        }
    }

    private Object call(String name, Object... args) {
        if (isWrong || calls >= CALLS) {
            return "over";
        }
        // nodes have a limit of their own, and would be most of the calls
        calls += name.equals("node") ? 0 : 1;
        Object due = answer(MODEL.get(name), model, args);
        if ("Unclear".equals(due)) {
            return unclear(name, args);
        }
        Object got = answer(PROGRAM.get(name), program, args);
        log.add(name + java.util.Arrays.toString(args) + " -> " + got);
        SEEN.merge(name + (got instanceof String s ? " " + s : SMALL.contains(name) ? " " + got : ""), 1, Integer::sum);
        if (!Objects.equals(got, due)) {
            isWrong = true;
            System.out.println(String.join("\n", log));
            System.out.println("  answered " + got + ", the model says " + due);
        }
        return got;
    }

    /** Working a term out that lost its types ends, with an answer of the face; the line is written anew then. */
    private Object unclear(String name, Object[] args) {
        if (name.equals("work") || name.equals("writeValue")) {
            Object got = answer(PROGRAM.get(name), program, args);
            SEEN.merge("unclear " + name + " " + got, 1, Integer::sum);
            if (got instanceof String) {
                isWrong = true;
                System.out.println(String.join("\n", log) + "\n" + name + " throws " + got);
            }
            call("writeTerm", args);
        }
        return "Unclear";
    }

    // Making nodes

    private int node(char kind, int a, int b, int c) {
        Integer there = told.get(List.of((int) kind, a, b, c));
        if (there != null && random.nextInt(10) != 0) {
            return there;
        }
        Object made = call("node", kind, a, b, c);
        if (!(made instanceof Integer)) {
            return there == null ? 0 : there;
        }
        told.put(List.of((int) kind, a, b, c), (Integer) made);
        return (Integer) made;
    }

    /** Types are written "j", "(x>y)" and "d7" here. */
    private int typeNode(String type) {
        if (type.startsWith("d")) {
            return node('d', Integer.parseInt(type.substring(1)), 0, 0);
        }
        if (type.startsWith("(")) {
            return node('>', typeNode(from(type)), typeNode(to(type)), 0);
        }
        return node('j', 0, 0, 0);
    }

    private static int middle(String type) {
        int open = 0;
        for (int i = 0; i < type.length(); i++) {
            open += type.charAt(i) == '(' ? 1 : type.charAt(i) == ')' ? -1 : 0;
            if (type.charAt(i) == '>' && open == 1) {
                return i;
            }
        }
        throw new IllegalStateException(type);
    }

    private static String from(String type) {
        return type.substring(1, middle(type));
    }

    private static String to(String type) {
        return type.substring(middle(type) + 1, type.length() - 1);
    }

    private String spell(Model.Tree type) {
        if (type.kind() == 'j') {
            return "j";
        }
        if (type.kind() == '>') {
            String from = spell(type.one());
            String to = spell(type.two());
            return from == null || to == null ? null : "(" + from + ">" + to + ")";
        }
        for (Map.Entry<Integer, Long> e : model.names().entrySet()) {
            if (e.getValue().equals(type.ref())) {
                return "d" + e.getKey();
            }
        }
        return null;
    }

    /** The types of the names that can be used now. */
    private Map<Integer, String> known() {
        Map<Integer, String> known = new TreeMap<>();
        model.names().forEach((n, h) -> {
            Model.Def def = model.made.get(h);
            String type = def.isData() ? null : spell(def.type());
            if (type != null) {
                known.put(n, type);
            }
        });
        known.putAll(planned);
        return known;
    }

    private Map<Integer, List<String>> knownData() {
        Map<Integer, List<String>> known = new TreeMap<>();
        model.names().forEach((n, h) -> {
            Model.Def def = model.made.get(h);
            if (def.isData()) {
                List<String> constructors = new ArrayList<>();
                for (Model.Tree c : def.constructors()) {
                    constructors.add(c == null ? "" : Model.SELF.equals(c.ref()) ? "d" + n : spellOr(c));
                }
                known.put(n, constructors);
            }
        });
        known.putAll(plannedData);
        return known;
    }

    private String spellOr(Model.Tree type) {
        if (type.kind() == '>') {
            return "j";
        }
        String spelt = spell(type);
        return spelt == null ? "j" : spelt;
    }

    private <T> T pick(List<T> of) {
        return of.get(random.nextInt(of.size()));
    }

    private String someType(int depth) {
        int chance = random.nextInt(10);
        List<Integer> data = new ArrayList<>(knownData().keySet());
        if (chance < 3 && depth > 0) {
            return "(" + someType(depth - 1) + ">" + someType(depth - 1) + ")";
        }
        if (chance < 5 && !data.isEmpty()) {
            return "d" + pick(data);
        }
        return "j";
    }

    private int literal() {
        return node('i', pick(List.of(0, 1, 1, 2, 3, -1, 7, 100, Integer.MIN_VALUE, Integer.MAX_VALUE)), 0, 0);
    }

    private static List<String> with(List<String> env, String type) {
        List<String> inside = new ArrayList<>(env);
        inside.add(0, type);
        return inside;
    }

    /** A term that has the type, mostly. */
    private int term(String type, List<String> env, int depth) {
        List<Integer> simple = new ArrayList<>();
        for (int i = 0; i < env.size(); i++) {
            if (env.get(i).equals(type)) {
                simple.add(node('v', i, 0, 0));
            }
        }
        for (Map.Entry<Integer, String> e : known().entrySet()) {
            if (e.getValue().equals(type)) {
                simple.add(node('r', e.getKey(), 0, 0));
            }
        }
        if (random.nextInt(60) == 0) {
            return random.nextBoolean() ? node('v', random.nextInt(4), 0, 0) : node('r', random.nextInt(26), 0, 0);
        }
        int chance = random.nextInt(12);
        if (!simple.isEmpty() && (chance < 4 || depth <= 0)) {
            return pick(simple);
        }
        if (depth > 0 && chance < 7) {
            int applied = application(type, env, depth);
            if (applied >= 0) {
                return applied;
            }
        }
        if (depth > 0 && chance == 8) {
            return node('?', term("j", env, depth - 1), term(type, env, depth - 1), term(type, env, depth - 1));
        }
        if (depth > 0 && chance == 9) {
            String bound = someType(1);
            return node('l', term(bound, env, depth - 1), term(type, with(env, bound), depth - 1), 0);
        }
        if (depth > 0 && chance == 10 && !knownData().isEmpty()) {
            return selection(type, env, depth);
        }
        return made(type, env, depth);
    }

    private int application(String type, List<String> env, int depth) {
        List<String> functions = new ArrayList<>(known().values());
        functions.addAll(env);
        functions.removeIf(f -> !f.startsWith("(") || !to(f).equals(type));
        if (functions.isEmpty()) {
            return -1;
        }
        String function = pick(functions);
        return node('a', term(function, env, depth - 1), term(from(function), env, depth - 1), 0);
    }

    private int made(String type, List<String> env, int depth) {
        if (type.startsWith("(")) {
            return node('f', typeNode(from(type)), term(to(type), with(env, from(type)), depth - 1), 0);
        }
        if (type.startsWith("d")) {
            int name = Integer.parseInt(type.substring(1));
            List<String> constructors = knownData().getOrDefault(name, List.of(""));
            int constructor = random.nextInt(constructors.size());
            if (depth < -3) {
                return literal();
            }
            String argument = constructors.get(constructor);
            return node('m', name, constructor, argument.isEmpty() ? -1 : term(argument, env, depth - 1));
        }
        if (depth > 0 && random.nextInt(3) != 0) {
            return node('o', term("j", env, depth - 1), term("j", env, depth - 1), random.nextInt(5));
        }
        return literal();
    }

    private int selection(String type, List<String> env, int depth) {
        Map<Integer, List<String>> all = knownData();
        int name = pick(new ArrayList<>(all.keySet()));
        List<String> constructors = all.get(name);
        int next = -1;
        for (int i = constructors.size() - 1; i >= 0; i--) {
            List<String> inside = constructors.get(i).isEmpty() ? env : with(env, constructors.get(i));
            next = node('b', term(type, inside, depth - 1), next, 0);
        }
        return node('c', name, term("d" + name, env, depth - 1), next);
    }

    // Making calls

    private int name() {
        int chance = random.nextInt(40);
        if (chance == 0) {
            return pick(List.of(-1, 26, 99));
        }
        return chance < 8 || model.names().isEmpty() ? random.nextInt(26) : pick(new ArrayList<>(model.names().keySet()));
    }

    private int freeName() {
        for (int i = 0; i < 20; i++) {
            int name = random.nextInt(12);
            if (!model.names().containsKey(name) && !planned.containsKey(name) && !plannedData.containsKey(name)) {
                return name;
            }
        }
        return random.nextInt(26);
    }

    private int chooseName(boolean isUpdate, boolean isData) {
        if (!isUpdate) {
            return freeName();
        }
        List<Integer> there = new ArrayList<>(model.names().keySet());
        there.removeIf(n -> model.made.get(model.names().get(n)).isData() != isData);
        return there.isEmpty() ? freeName() : pick(there);
    }

    private void stageSome(boolean isUpdate) {
        planned.clear();
        plannedData.clear();
        if (random.nextInt(3) == 0) {
            stageData(chooseName(isUpdate, true));
        }
        int terms = pick(List.of(1, 1, 1, 2, 2, 3, 4));
        List<Integer> names = new ArrayList<>();
        for (int i = 0; i < terms; i++) {
            int name = chooseName(isUpdate, false);
            String old = known().get(name);
            planned.put(name, isUpdate && old != null && random.nextInt(5) != 0 ? old : functionType());
            names.add(name);
        }
        boolean isRecursive = random.nextInt(3) == 0;
        Map<Integer, String> types = new HashMap<>(planned);
        for (int name : names) {
            String type = types.get(name);
            if (!isRecursive) {
                planned.remove(name);
            }
            call("stage", name, typeNode(type), term(type, List.of(), 2 + random.nextInt(3)));
        }
        planned.clear();
        plannedData.clear();
        if (random.nextInt(8) == 0) {
            call("fault");
            call("faultName");
        }
        Object done = call(isUpdate ? "update" : "define");
        if (done instanceof String && !"over".equals(done)) {
            call("fault");
            call("faultName");
            call(isUpdate ? "define" : "update");
        }
        if (random.nextInt(10) != 0) {
            call("unstage");
        }
        look();
    }

    private String functionType() {
        return random.nextInt(3) == 0 ? someType(2) : random.nextInt(3) == 0 ? "j" : "(j>j)";
    }

    private void stageData(int name) {
        int count = 1 + random.nextInt(3);
        List<String> constructors = new ArrayList<>();
        int next = -1;
        for (int i = 0; i < count; i++) {
            int chance = random.nextInt(6);
            String type = chance < 2 ? "" : chance == 2 ? "d" + name : chance == 3 ? someType(1) : "j";
            constructors.add(0, type);
            next = node('+', type.isEmpty() ? -1 : typeNode(type), next, 0);
        }
        call("stageData", name, random.nextInt(4) == 0, next);
        plannedData.put(name, constructors);
    }

    /** Looks at what has changed, mostly. */
    private void look() {
        if (random.nextInt(3) == 0) {
            call("definitions");
        }
        for (int i = 0; i < 4; i++) {
            call(pick(List.of("hash", "hash", "hashAnew", "needed", "writeTerm", "kindOf")), name());
        }
        if (call("todo") instanceof Integer todo && todo > 0) {
            call("todoAt", random.nextInt(todo));
            call("todoAt", todo);
        }
    }

    private int number(int count) {
        return random.nextInt(15) == 0 ? pick(List.of(-1, count, count + 7)) : random.nextInt(Math.max(1, count));
    }

    private void patchCall() {
        int count = model.patchList.size();
        int chance = random.nextInt(10);
        if (chance < 6) {
            call("apply", number(count));
            look();
        } else if (chance < 8) {
            call("compose", number(count), number(count));
            call("patchSize", number(model.patchList.size()));
        } else {
            call("mergePatches", number(count), number(count));
            call("patchSize", number(model.patchList.size()));
        }
        call("patches");
    }

    private void branchCall() {
        int chance = random.nextInt(10);
        int branches = model.branchNames.size();
        int commits = model.commitNames.size();
        if (chance < 2) {
            call("commit");
        } else if (chance == 2) {
            call("branch");
        } else if (chance < 6) {
            call(branches == 1 ? "branch" : "goTo", branches == 1 ? new Object[0] : new Object[] {number(branches)});
        } else if (chance < 8) {
            Object conflicts = call("merge", number(branches));
            if (conflicts instanceof Integer n && n > 0) {
                call("conflictAt", random.nextInt(n));
                call("conflictAt", n);
            }
            look();
        } else if (chance == 8) {
            call("ancestor", number(commits), number(commits));
        } else {
            call("hashIn", number(commits), name());
        }
    }

    private void readLine(Object length) {
        if (length instanceof Integer n) {
            for (int i = 0; i < 3 && n > 0; i++) {
                call("lineAt", random.nextInt(n));
            }
            call("lineAt", n);
            // what is read is no call of the run, so that whole lines can be compared
            StringBuilder line = new StringBuilder();
            for (int i = 0; i < n && !isWrong && calls < CALLS; i++) {
                line.append(program.lineAt(i));
            }
            if (!isWrong && calls < CALLS && !line.toString().equals(model.line)) {
                isWrong = true;
                System.out.println(String.join("\n", log) + "\n  wrote " + line + ", the model writes " + model.line);
            }
        }
    }

    private void workCall() {
        int chance = random.nextInt(4);
        if (chance == 0) {
            call("work", name());
        } else if (chance == 1) {
            readLine(call("writeValue", name()));
        } else {
            call("test", name());
            call("tests");
        }
    }

    private void jobCall() {
        int jobs = model.jobs.size();
        int machine = number(3);
        switch (random.nextInt(12)) {
            case 0, 1, 2 -> call("job", machine, name());
            case 3, 4, 5 -> call("goOn", machine);
            case 6 -> call("jobState", number(jobs));
            case 7, 8 -> {
                call("outcome", number(jobs));
                call("result", number(jobs));
                call("traffic");
            }
            case 9 -> {
                call(random.nextInt(4) == 0 ? "down" : "up", machine);
                call("retry", number(jobs), number(3));
            }
            default -> call("lacking", machine, name());
        }
    }

    private void nameCall() {
        switch (random.nextInt(6)) {
            case 0 -> call("alias", name(), name());
            case 1 -> call("unname", name());
            case 2 -> call("needs", name(), name());
            case 3 -> readLine(call("writeTerm", name()));
            case 4 -> readLine(call("writeType", name()));
            default -> call(pick(List.of("isSound", "namedShare", "meanNeeded", "definitions", "collect")));
        }
    }

    private void wrongCall() {
        switch (random.nextInt(5)) {
            case 0 -> call("node", pick(List.of('j', '>', 'd', 'i', 'v', 'f', 'a', 'o', '?', 'l', 'r', 'm', 'c', 'b', '+', 'z')),
                random.nextInt(34) - 2, random.nextInt(8) - 2, random.nextInt(9) - 2);
            case 1 -> call("stage", name(), number(model.nodes.size()), number(model.nodes.size()));
            case 2 -> call("stageData", name(), random.nextBoolean(), number(model.nodes.size()));
            case 3 -> call("collect");
            default -> call(pick(List.of("define", "update", "fault", "faultName")));
        }
    }

    private boolean run() {
        for (int i = 0; i < 3 * CALLS && calls < CALLS && !isWrong; i++) {
            int chance = random.nextInt(20);
            if (chance < 4) {
                stageSome(model.names().size() > 4 && random.nextInt(5) < 2);
            } else if (chance < 6) {
                stageSome(true);
            } else if (chance < 9) {
                patchCall();
            } else if (chance < 11) {
                branchCall();
            } else if (chance < 13) {
                workCall();
            } else if (chance < 15) {
                for (int j = random.nextInt(6); j >= 0; j--) {
                    jobCall();
                }
            } else if (chance < 19) {
                nameCall();
            } else {
                wrongCall();
            }
        }
        return isWrong;
    }

    public static void main(String[] args) {
        int runs = args.length > 0 ? Integer.parseInt(args[0]) : RUNS;
        long first = args.length > 1 ? Long.parseLong(args[1]) : 1;
        for (long seed = first; seed < first + runs; seed++) {
            if (new RandomRunsTest(seed).run()) {
                System.out.println("the run with the seed " + seed + " is wrong");
                System.exit(1);
            }
        }
        if (args.length > 2) {
            SEEN.forEach((k, v) -> System.out.println(v + "\t" + k));
        }
        System.out.println("all " + runs + " runs are as the model says");
    }
}
