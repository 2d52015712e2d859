import java.lang.reflect.InvocationTargetException;
import java.lang.reflect.Method;
import java.util.ArrayList;
import java.util.HashMap;
import java.util.List;
import java.util.Map;
import java.util.Objects;
import java.util.Random;

/**
 * Runs that chance makes up, always the same ones, in which ints need one another in long chains: patches
 * make hundreds of them, collecting drops them, machines keep them. The program is compared with the model.
 */
public final class ChainRunsTest {
    private static final int RUNS = 40;
    private static final int CALLS = 450;
    private static final int NAMES = 8;
    private static final int MANY = 350;

    private final Random random;
    private final HashedCommons program = new HashedCommons();
    private final Model model = new Model();
    private final List<String> log = new ArrayList<>();
    private final Map<List<Integer>, Integer> told = new HashMap<>();
    private int calls;
    private boolean isWrong;
    private static int most;
    private static int dropped;

    private ChainRunsTest(long seed) {
        random = new Random(seed);
    }

    private static Object answer(Object on, String name, Object[] args) {
        for (Method method : on.getClass().getDeclaredMethods()) {
            if (method.getName().equals(name) && method.getParameterCount() == args.length
                && !java.lang.reflect.Modifier.isPrivate(method.getModifiers())) {
                try {
                    return method.invoke(on, args);
                } catch (InvocationTargetException e) {
                    return e.getCause().getClass().getSimpleName();
                } catch (IllegalAccessException e) {
                    throw new IllegalStateException(e);
                }
            }
        }
        throw new IllegalStateException(name);
    }

    private Object call(String name, Object... args) {
        if (isWrong) {
            return "over";
        }
        calls++;
        Object due = answer(model, name, args);
        if ("Unclear".equals(due)) {
            return due;
        }
        Object got = answer(program, name, args);
        log.add(name + java.util.Arrays.toString(args) + " -> " + got);
        if (!Objects.equals(got, due)) {
            isWrong = true;
            System.out.println(String.join("\n", log) + "\n  the model says " + due);
        }
        return got;
    }

    private int node(char kind, int a, int b, int c) {
        Integer there = told.get(List.of((int) kind, a, b, c));
        if (there != null) {
            return there;
        }
        Object made = call("node", kind, a, b, c);
        int node = made instanceof Integer ? (Integer) made : 0;
        told.put(List.of((int) kind, a, b, c), node);
        return node;
    }

    private int name() {
        return random.nextInt(NAMES);
    }

    /** A number, or a sum of some names and a number. */
    private int sum(int first) {
        int sum = node('i', random.nextInt(6), 0, 0);
        int parts = first >= 0 ? random.nextInt(3) : random.nextInt(5) - 1;
        for (int i = 0; i < parts; i++) {
            sum = node('o', node('r', name(), 0, 0), sum, 0);
        }
        return first < 0 ? sum : node('o', node('r', first, 0, 0), sum, 0);
    }

    private boolean has(int name) {
        return model.names().containsKey(name);
    }

    /** Stages one name, or two or three that need one another. */
    private void stage(boolean isUpdate) {
        int type = node('j', 0, 0, 0);
        int name = name();
        for (int i = 0; i < 20 && has(name) != isUpdate; i++) {
            name = name();
        }
        if (random.nextInt(8) != 0) {
            call("stage", name, type, sum(random.nextInt(3) == 0 ? name() : -1));
        } else {
            int other = name();
            call("stage", name, type, sum(other));
            call("stage", other, type, sum(name));
        }
        call(isUpdate ? "update" : "define");
        call("unstage");
        call("todo");
    }

    /** Updates a name with a sum over one that needs it, so that applying the patch makes ever more. */
    private void grow() {
        int name = name();
        int over = name();
        for (int i = 0; i < 20 && !Boolean.TRUE.equals(needs(over, name)); i++) {
            name = name();
            over = name();
        }
        if (name != over && has(name)) {
            call("stage", name, node('j', 0, 0, 0), sum(over));
            call("update");
            call("unstage");
            if (random.nextBoolean()) {
                call("alias", name, over);
            }
        }
    }

    private Object needs(int name, int other) {
        return has(name) && has(other) && name != other ? model.needs(name, other) : false;
    }

    private void change() {
        int patches = model.patches();
        int chance = random.nextInt(20);
        if (model.definitions() > MANY) {
            drop();
        } else if (chance == 0) {
            stage(false);
        } else if (chance < 3) {
            stage(true);
        } else if (chance < 6) {
            grow();
        } else if (chance < 8) {
            call("alias", name(), name());
        } else if (chance == 8 && random.nextInt(4) == 0) {
            call("unname", name());
        } else if (chance == 9 && random.nextInt(3) == 0) {
            drop();
        } else if (chance == 10) {
            branches();
        } else if (chance < 13) {
            machines();
        } else if (patches > 0) {
            patch(random.nextInt(patches), random.nextInt(patches));
        }
    }

    private void patch(int patch, int other) {
        int chance = random.nextInt(12);
        if (chance == 0) {
            call("compose", patch, other);
        } else if (chance == 1) {
            call("mergePatches", patch, other);
        } else {
            for (int i = random.nextInt(10); i >= 0 && model.definitions() <= MANY; i--) {
                call("apply", patch);
            }
        }
        call("patchSize", model.patches() - 1);
    }

    private void drop() {
        for (int name = 0; name < NAMES; name++) {
            if (has(name) && random.nextBoolean()) {
                call("unname", name);
            }
        }
        if (call("collect") instanceof Integer gone) {
            dropped += gone;
        }
        call("definitions");
    }

    private void branches() {
        switch (random.nextInt(6)) {
            case 0:
                call("branch");
                break;
            case 1:
                call("commit");
                break;
            case 2:
                call("merge", random.nextInt(3));
                break;
            default:
                call("goTo", random.nextInt(4));
        }
    }

    private void machines() {
        int machine = random.nextInt(3);
        switch (random.nextInt(5)) {
            case 0:
                call("job", machine, name());
                break;
            case 1:
                call("down", machine);
                call("up", machine);
                break;
            default:
                call("job", machine, name());
                call("goOn", machine);
                call("traffic");
        }
    }

    private void look() {
        switch (random.nextInt(8)) {
            case 0:
                call("needs", name(), name());
                break;
            case 1:
                call("needed", name());
                break;
            case 2:
                call("hashAnew", name());
                break;
            case 3:
                call("lacking", random.nextInt(3), name());
                break;
            case 4:
                call("writeTerm", name());
                call("lineAt", 1);
                call("lineAt", 2);
                break;
            case 5:
                call("work", name());
                break;
            default:
                call("hash", name());
        }
    }

    private boolean isAsDue() {
        for (int i = 0; i < 4; i++) {
            stage(false);
        }
        while (calls < CALLS && !isWrong) {
            change();
            look();
            most = Math.max(most, model.definitions());
        }
        call("isSound");
        call("meanNeeded");
        return !isWrong;
    }

    /** Arguments, if there are some: how many runs, and the first seed. */
    public static void main(String[] args) {
        int runs = args.length > 0 ? Integer.parseInt(args[0]) : RUNS;
        long first = args.length > 1 ? Long.parseLong(args[1]) : 1;
        int wrong = 0;
        for (int i = 0; i < runs && wrong < 3; i++) {
            wrong += new ChainRunsTest(first + i).isAsDue() ? 0 : 1;
        }
        System.out.println(wrong > 0 ? wrong + " runs are wrong" : "all " + runs + " runs are as the model says; of at most "
            + most + " definitions " + dropped + " were dropped");
        System.exit(wrong > 0 ? 1 : 0);
    }
}
