import java.util.Arrays;
import java.util.Objects;

/** What the tests of the promises share: a commons, short names for its nodes, and comparing. */
abstract class Check {
    static final int A = 0;
    static final int B = 1;
    static final int C = 2;
    static final int D = 3;
    static final int E = 4;
    static final int F = 5;
    static final int NO = -1;

    private static int wrong;
    private String part = "";
    HashedCommons x = new HashedCommons();

    /** A call whose answer or exception counts. */
    interface Call {
        Object answer();
    }

    void begin(String promise) {
        part = promise;
        x = new HashedCommons();
    }

    void due(String what, Object want, Object got) {
        if (!Objects.equals(want, got)) {
            wrong++;
            System.out.println(part + ": " + what + " is " + got + ", due is " + want);
        }
    }

    /** The exception is due, and that nothing changes by the call. */
    void fails(Class<? extends RuntimeException> want, String what, Call call) {
        String before = state();
        Object got;
        try {
            got = call.answer();
        } catch (RuntimeException e) {
            got = e.getClass();
        }
        due(what, want, got);
        due(what + ": the state", before, state());
    }

    void illegal(String what, Call call) {
        fails(IllegalArgumentException.class, what, call);
    }

    void missing(String what, Call call) {
        fails(java.util.NoSuchElementException.class, what, call);
    }

    void unsupported(String what, Call call) {
        fails(UnsupportedOperationException.class, what, call);
    }

    void refused(String what, Call call) {
        fails(IllegalStateException.class, what, call);
    }

    void outside(String what, Call call) {
        fails(IndexOutOfBoundsException.class, what, call);
    }

    private static Object orException(Call call) {
        try {
            return call.answer();
        } catch (RuntimeException e) {
            return e.getClass().getSimpleName();
        }
    }

    /** All that can be seen without a change. */
    String state() {
        StringBuilder seen = new StringBuilder();
        for (int n = 0; n < 26; n++) {
            final int name = n;
            seen.append(x.kindOf(n)).append(orException(() -> x.hash(name))).append(' ');
        }
        for (int i = 0; i < 30; i++) {
            final int at = i;
            seen.append(orException(() -> x.todoAt(at))).append(orException(() -> x.conflictAt(at)));
            seen.append(orException(() -> x.jobState(at))).append(orException(() -> x.patchSize(at)));
        }
        for (int machine = 0; machine < 3; machine++) {
            for (int n = 0; n < 26; n++) {
                final int[] at = {machine, n};
                seen.append(orException(() -> x.lacking(at[0], at[1])));
            }
        }
        seen.append(Arrays.asList(x.definitions(), x.patches(), x.commits(), x.tests(), x.traffic(), x.todo()));
        seen.append(x.fault()).append(orException(() -> x.faultName())).append(line());
        return seen.toString();
    }

    String line() {
        StringBuilder line = new StringBuilder();
        try {
            for (int i = 0; i < 1000; i++) {
                line.append(x.lineAt(i));
            }
        } catch (IndexOutOfBoundsException e) {
            return line.toString();
        }
        return line.toString();
    }

    // Nodes

    int type() {
        return x.node('j', 0, 0, 0);
    }

    int arrow(int from, int to) {
        return x.node('>', from, to, 0);
    }

    int data(int name) {
        return x.node('d', name, 0, 0);
    }

    int num(int n) {
        return x.node('i', n, 0, 0);
    }

    int var(int n) {
        return x.node('v', n, 0, 0);
    }

    int fn(int type, int body) {
        return x.node('f', type, body, 0);
    }

    int app(int function, int argument) {
        return x.node('a', function, argument, 0);
    }

    int op(int left, char sign, int right) {
        return x.node('o', left, right, "+-*<=".indexOf(sign));
    }

    int choice(int test, int yes, int no) {
        return x.node('?', test, yes, no);
    }

    int let(int bound, int body) {
        return x.node('l', bound, body, 0);
    }

    int ref(int name) {
        return x.node('r', name, 0, 0);
    }

    int make(int data, int constructor, int term) {
        return x.node('m', data, constructor, term);
    }

    int cases(int data, int term, int... branches) {
        int next = NO;
        for (int i = branches.length - 1; i >= 0; i--) {
            next = x.node('b', branches[i], next, 0);
        }
        return x.node('c', data, term, next);
    }

    /** A chain of constructors with the types, NO for one without. */
    int constructors(int... types) {
        int next = NO;
        for (int i = types.length - 1; i >= 0; i--) {
            next = x.node('+', types[i], next, 0);
        }
        return next;
    }

    /** A function of ints that adds a number. */
    int adder(int n) {
        return fn(type(), op(var(0), '+', num(n)));
    }

    /** A function of ints that calls another one. */
    int caller(int name) {
        return fn(type(), app(ref(name), var(0)));
    }

    int intToInt() {
        return arrow(type(), type());
    }

    void defineInt(int name, int term) {
        x.stage(name, type(), term);
        x.define();
    }

    void defineFunction(int name, int term) {
        x.stage(name, intToInt(), term);
        x.define();
    }

    int updateFunction(int name, int term) {
        x.stage(name, intToInt(), term);
        return x.update();
    }

    void defineData(int name, int... types) {
        x.stageData(name, false, constructors(types));
        x.define();
    }

    String written(int name) {
        due("the length", x.writeTerm(name), line().length());
        return line();
    }

    String value(int name) {
        due("the length", x.writeValue(name), line().length());
        return line();
    }

    static long row(long... numbers) {
        long hash = -3750763034362895579L;
        for (long number : numbers) {
            hash = (Long.rotateLeft(hash, 5) ^ number) * 1099511628211L;
        }
        return hash;
    }

    static void end() {
        if (wrong > 0) {
            System.out.println(wrong + " answers are not as due");
            System.exit(1);
        }
        System.out.println("all answers are as due");
    }
}
