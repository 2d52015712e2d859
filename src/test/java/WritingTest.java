/** Promises 48 to 53: the line, and what is counted. */
public final class WritingTest extends Check {
    public static void main(String[] args) {
        WritingTest test = new WritingTest();
        test.promise48();
        test.promise48Data();
        test.promise48Names();
        test.promise48Long();
        test.promise49();
        test.promise50();
        test.promise51();
        test.promise52();
        test.promise53();
        end();
    }

    private void writes(String want, int type, int term) {
        x.stage(25, type, term);
        x.define();
        due("written", want, written(25));
        x.unname(25);
    }

    private void promise48() {
        begin("promise 48");
        illegal("-1", () -> x.writeTerm(-1));
        illegal("26", () -> x.writeTerm(26));
        missing("none", () -> x.writeTerm(24));
        int t = type();
        int f = intToInt();
        defineFunction(A, adder(1));
        writes("0", t, num(0));
        writes("-2147483648", t, num(Integer.MIN_VALUE));
        writes("2147483647", t, num(Integer.MAX_VALUE));
        writes("1000000000", t, num(1000000000));
        writes("a", f, ref(A));
        writes("a(-12)", t, app(ref(A), num(-12)));
        writes("(1 + 2)", t, op(num(1), '+', num(2)));
        writes("(1 - 2)", t, op(num(1), '-', num(2)));
        writes("(1 * 2)", t, op(num(1), '*', num(2)));
        writes("(1 < 2)", t, op(num(1), '<', num(2)));
        writes("(1 = 2)", t, op(num(1), '=', num(2)));
        writes("(1 ? 2 : 3)", t, choice(num(1), num(2), num(3)));
        writes("(x0 = 1; x0)", t, let(num(1), var(0)));
        writes("(x0 = (x0 = 1; x0); (x1 = x0; (x0 + x1)))", t,
            let(let(num(1), var(0)), let(var(0), op(var(1), '+', var(0)))));
        writes("(x0: (int -> int) => (x1: int => x0(x1)))", arrow(f, f), fn(f, fn(t, app(var(1), var(0)))));
        writes("(x0: int => x0)(5)", t, app(fn(t, var(0)), num(5)));
        x.stageData(B, false, constructors(NO, t, data(B)));
        x.define();
        writes("b.c0", data(B), make(B, 0, NO));
        writes("b.c2(b.c1(7))", data(B), make(B, 2, make(B, 1, num(7))));
        writes("(x0: b => (x0 | c0 => 4 | c1 x1 => x1 | c2 x1 => (x1 | c0 => 0 | c1 x2 => x2 | c2 x2 => 1)))",
            arrow(data(B), t), fn(data(B), cases(B, var(0), num(4), var(0), cases(B, var(0), num(0), var(0), num(1)))));
    }

    private void promise48Data() {
        begin("promise 48, data");
        defineData(A, NO);
        due("one", "c0", written(A));
        defineData(B, type(), NO, arrow(data(B), data(A)), data(B));
        due("four", "c0 int | c1 | c2 (. -> a) | c3 .", written(B));
        x.stageData(C, true, constructors(data(B)));
        x.define();
        due("other data", "c0 b", written(C));
    }

    private void promise48Names() {
        begin("promise 48, names");
        defineFunction(C, adder(1));
        x.alias(C, D);
        defineFunction(E, caller(C));
        due("the lowest letter", "(x0: int => c(x0))", written(E));
        x.unname(C);
        due("the next one", "(x0: int => d(x0))", written(E));
        x.alias(D, 25);
        x.unname(D);
        due("z", "(x0: int => z(x0))", written(E));
        String hex = String.format("%016x", x.hash(25));
        x.unname(25);
        String other = String.format("%016x", x.hash(E));
        int digits = 1;
        while (other.startsWith(hex.substring(0, digits))) {
            digits++;
        }
        due("by its hash", "(x0: int => #" + hex.substring(0, digits) + "(x0))", written(E));
        // many others, so that some begin alike
        for (int n = 0; n < 40; n++) {
            defineInt(10, op(num(n), '*', num(1)));
            String more = String.format("%016x", x.hash(10));
            while (more.startsWith(hex.substring(0, digits))) {
                digits++;
            }
            x.unname(10);
        }
        due("with more digits", true, digits > 1);
        due("as many as needed", "(x0: int => #" + hex.substring(0, digits) + "(x0))", written(E));
        x.collect();
        int fewer = 1;
        while (other.startsWith(hex.substring(0, fewer))) {
            fewer++;
        }
        due("only those in the codebase", "(x0: int => #" + hex.substring(0, fewer) + "(x0))", written(E));
        x.stage(F, intToInt(), caller(F));
        x.define();
        due("itself by its name", "(x0: int => f(x0))", written(F));
        x.alias(F, A);
        due("by the lowest one", "(x0: int => a(x0))", written(F));
    }

    private void promise48Long() {
        begin("promise 48, a long line");
        int term = num(1);
        for (int i = 0; i < 6; i++) {
            term = op(term, '+', term);
        }
        defineInt(A, term);
        due("length", 200, x.writeTerm(A));
        String whole = "1";
        for (int i = 0; i < 6; i++) {
            whole = "(" + whole + " + " + whole + ")";
        }
        due("cut off", whole.substring(0, 200), line());
        outside("behind it", () -> x.lineAt(200));
        defineInt(B, num(6));
        due("in place of it", 1, x.writeTerm(B));
        due("only this", "6", line());
    }

    private void promise49() {
        begin("promise 49");
        illegal("-1", () -> x.writeType(-1));
        illegal("26", () -> x.writeType(26));
        missing("none", () -> x.writeType(24));
        defineData(A, NO);
        unsupported("data", () -> x.writeType(A));
        x.stage(B, arrow(arrow(type(), data(A)), type()), fn(arrow(type(), data(A)), num(1)));
        x.stage(C, type(), num(1));
        x.stage(D, data(A), make(A, 0, NO));
        x.define();
        due("length", 19, x.writeType(B));
        due("b", "((int -> a) -> int)", line());
        due("length", 3, x.writeType(C));
        due("c", "int", line());
        due("length", 1, x.writeType(D));
        due("d", "a", line());
        x.unname(A);
        x.writeType(D);
        due("without a name", '#', x.lineAt(0));
    }

    private void promise50() {
        begin("promise 50");
        outside("empty at first", () -> x.lineAt(0));
        outside("under", () -> x.lineAt(-1));
        defineInt(A, num(-120));
        x.writeValue(A);
        due("0", '-', x.lineAt(0));
        due("3", '0', x.lineAt(3));
        outside("over", () -> x.lineAt(4));
        outside("under", () -> x.lineAt(-1));
        missing("an exception leaves the line", () -> x.writeTerm(B));
        due("line", "-120", line());
        x.work(A);
        due("work leaves the line", "-120", line());
    }

    private void promise51() {
        begin("promise 51");
        due("none", true, x.isSound());
        defineData(A, NO, data(A));
        x.stage(B, intToInt(), caller(C));
        x.stage(C, intToInt(), caller(B));
        x.stage(D, data(A), make(A, 1, make(A, 0, NO)));
        x.define();
        due("some", true, x.isSound());
        updateFunction(B, adder(1));
        x.stageData(A, true, constructors(NO, data(A), NO));
        x.update();
        due("more", true, x.isSound());
        x.unname(B);
        x.collect();
        due("less", true, x.isSound());
    }

    private void promise52() {
        begin("promise 52");
        fails(ArithmeticException.class, "none", () -> x.namedShare());
        defineInt(A, num(1));
        due("all", 1f, x.namedShare());
        defineInt(B, num(2));
        x.alias(A, C);
        due("each once", 1f, x.namedShare());
        defineInt(D, num(3));
        x.unname(D);
        due("two of three", 2f / 3f, x.namedShare());
        x.branch();
        x.unname(A);
        x.unname(B);
        x.unname(C);
        due("none of the present branch", 0f, x.namedShare());
        x.goTo(1);
        due("of the other branch", 2f / 3f, x.namedShare());
        begin("promise 52, all dropped");
        defineInt(A, num(1));
        x.unname(A);
        x.collect();
        fails(ArithmeticException.class, "none", () -> x.namedShare());
    }

    private void promise53() {
        begin("promise 53");
        fails(ArithmeticException.class, "none", () -> x.meanNeeded());
        defineInt(A, num(1));
        due("none", 0d, x.meanNeeded());
        defineInt(B, ref(A));
        defineInt(C, op(ref(A), '+', ref(B)));
        due("0, 1 and 2", 1d, x.meanNeeded());
        x.alias(C, D);
        due("each once", 1d, x.meanNeeded());
        x.unname(A);
        due("1 and 2", 1.5, x.meanNeeded());
        x.unname(B);
        due("2", 2d, x.meanNeeded());
        x.stage(E, intToInt(), caller(E));
        x.stage(F, intToInt(), caller(E));
        x.define();
        due("itself, too", 4d / 3d, x.meanNeeded());
        x.unname(C);
        x.unname(D);
        x.unname(E);
        x.unname(F);
        fails(ArithmeticException.class, "no names, but definitions", () -> x.meanNeeded());
    }
}
