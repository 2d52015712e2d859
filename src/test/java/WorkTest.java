/** Promises 34 to 47: working out, tests, machines and jobs. */
public final class WorkTest extends Check {
    public static void main(String[] args) {
        WorkTest test = new WorkTest();
        test.promise34();
        test.promise34Limits();
        test.promise35();
        test.promise35Long();
        test.promises36And37();
        test.promises38To42();
        test.promise39Order();
        test.promise39Others();
        test.promise41();
        test.promises43To45();
        test.promises46And47();
        end();
    }

    private void wrongNames(java.util.function.IntFunction<Object> call) {
        illegal("-1", () -> call.apply(-1));
        illegal("26", () -> call.apply(26));
        missing("none", () -> call.apply(24));
    }

    private void promise34() {
        begin("promise 34");
        defineData(A, NO, type());
        defineInt(B, num(5));
        defineFunction(C, adder(2));
        x.stage(D, data(A), make(A, 1, ref(B)));
        x.stage(E, type(), app(ref(C), num(3)));
        x.define();
        due("int", 'i', x.work(B));
        due("function", 'f', x.work(C));
        due("constructor", 'c', x.work(D));
        due("applied", 'i', x.work(E));
        unsupported("data", () -> x.work(A));
        wrongNames(n -> x.work(n));
        due("nothing is written", "", line());
        due("no test", 0, x.tests());
    }

    /** A term that begins n applications, and is n. */
    private int sums(int n) {
        int one = app(fn(type(), var(0)), num(1));
        int sum = num(0);
        for (int i = 0; i < n; i++) {
            sum = op(one, '+', sum);
        }
        return sum;
    }

    private void promise34Limits() {
        begin("promise 34, under way");
        // f counts down: the asked name, and n + 1 applications under way
        x.stage(A, intToInt(), fn(type(), choice(var(0), app(ref(A), op(var(0), '-', num(1))), num(9))));
        x.define();
        defineInt(B, app(ref(A), num(22)));
        defineInt(C, app(ref(A), num(23)));
        defineInt(D, app(ref(A), num(24)));
        due("23 applications and the name", 'i', x.work(B));
        due("at 24 applications none other is begun", 'i', x.work(C));
        due("one more", 'l', x.work(D));
        begin("promise 34, names under way");
        defineInt(0, num(1));
        for (int name = 1; name < 26; name++) {
            defineInt(name, ref(name - 1));
        }
        due("25 names", 'i', x.work(24));
        due("26 names", 'l', x.work(25));
        begin("promise 34, all");
        // b begins 1 + 9, c 1 + 5 * 10, d 1 + 4 * 51, e 1 + 205 + 51 + 3 * 10, f 1 + 287 + 12
        defineInt(B, sums(9));
        defineInt(C, op(op(op(ref(B), '+', ref(B)), '+', op(ref(B), '+', ref(B))), '+', ref(B)));
        defineInt(D, op(op(ref(C), '+', ref(C)), '+', op(ref(C), '+', ref(C))));
        defineInt(E, op(op(ref(D), '+', ref(C)), '+', op(ref(B), '+', op(ref(B), '+', ref(B)))));
        defineInt(F, op(ref(E), '+', sums(12)));
        due("300", 'i', x.work(F));
        due("the sum", "264", value(F));
        defineInt(10, op(ref(E), '+', sums(13)));
        due("301", 'l', x.work(10));
        defineInt(11, op(sums(12), '+', op(ref(B), '+', ref(E))));
        due("over by names", 'l', x.work(11));
        begin("promise 34, without an end");
        x.stage(A, type(), ref(A));
        x.define();
        due("stopped", 'l', x.work(A));
    }

    private void promise35() {
        begin("promise 35");
        wrongNames(n -> x.writeValue(n));
        defineData(A, NO, arrow(type(), type()), data(A));
        unsupported("data", () -> x.writeValue(A));
        x.stage(B, data(A), make(A, 2, make(A, 2, make(A, 0, NO))));
        x.stage(C, data(A), make(A, 2, make(A, 1, adder(1))));
        x.stage(D, type(), num(Integer.MIN_VALUE));
        x.stage(E, type(), ref(E));
        x.define();
        due("b", "c2(c2(c0))", value(B));
        due("c", "c2(c1(fn))", value(C));
        due("d", "-2147483648", value(D));
        due("e is stopped", 0, x.writeValue(E));
        due("the line before is gone", "", line());
        begin("promise 35, values");
        int i = 0;
        int[] terms = {op(num(7), '+', num(Integer.MAX_VALUE)), op(num(Integer.MIN_VALUE), '-', num(1)),
            op(num(65536), '*', num(65537)), op(num(2), '<', num(3)), op(num(3), '<', num(3)), op(num(-3), '=', num(-3)),
            op(num(3), '=', num(4)), choice(num(-1), num(5), num(6)), choice(num(0), num(5), num(6)),
            let(num(4), op(var(0), '*', var(0))), let(num(4), let(num(3), op(var(0), '-', var(1)))),
            app(app(fn(type(), fn(type(), op(var(1), '-', var(0)))), num(10)), num(3)), num(0), num(100)};
        String[] wanted = {"-2147483642", "2147483647", "65536", "1", "0", "1", "0", "5", "6", "16", "-1", "7", "0", "100"};
        for (int term : terms) {
            defineInt(i, term);
            due("term " + i, wanted[i], value(i));
            i++;
        }
        begin("promise 35, branches and scopes");
        defineData(A, NO, type(), type());
        x.stage(B, arrow(data(A), type()), fn(data(A), let(num(100), cases(A, var(1), var(0), op(var(0), '+', var(1)), num(8)))));
        x.define();
        defineInt(C, app(ref(B), make(A, 0, NO)));
        defineInt(D, app(ref(B), make(A, 1, num(5))));
        defineInt(E, app(ref(B), make(A, 2, num(5))));
        due("without an argument", "100", value(C));
        due("with what is bound", "105", value(D));
        due("the third", "8", value(E));
        // the function keeps the scope in which it was made
        defineInt(F, let(num(1), let(fn(type(), op(var(0), '-', var(1))), let(num(50), app(var(1), num(7))))));
        due("scope", "6", value(F));
        // what is not chosen is not worked out
        x.stage(10, type(), ref(10));
        x.define();
        defineInt(11, choice(num(1), num(2), ref(10)));
        due("only the chosen part", "2", value(11));
        defineInt(12, app(fn(type(), num(3)), ref(10)));
        due("arguments ahead of bodies", "", value(12));
    }

    private void promise35Long() {
        begin("promise 35, a long value");
        defineData(A, NO, data(A));
        int term = var(0);
        for (int i = 0; i < 18; i++) {
            term = make(A, 1, term);
        }
        x.stage(B, arrow(data(A), data(A)), fn(data(A), term));
        x.define();
        int nested = make(A, 0, NO);
        for (int i = 0; i < 10; i++) {
            nested = app(ref(B), nested);
        }
        x.stage(C, data(A), nested);
        x.define();
        due("constructor", 'c', x.work(C));
        due("200 signs", "c1(".repeat(66) + "c1", value(C));
        nested = make(A, 0, NO);
        for (int i = 0; i < 3; i++) {
            nested = app(ref(B), nested);
        }
        x.stage(D, data(A), nested);
        x.define();
        due("with some brackets", "c1(".repeat(54) + "c0" + ")".repeat(36), value(D));
    }

    private void promises36And37() {
        begin("promises 36 and 37");
        wrongNames(n -> x.test(n));
        defineInt(A, num(-3));
        defineInt(B, op(num(3), '-', num(3)));
        x.stage(C, type(), ref(C));
        x.stage(D, intToInt(), adder(1));
        x.stageData(E, false, constructors(NO));
        x.stage(F, data(E), make(E, 0, NO));
        x.define();
        due("not 0", 'p', x.test(A));
        due("0", 'n', x.test(B));
        due("stopped", 'l', x.test(C));
        due("three", 3, x.tests());
        due("again", 'p', x.test(A));
        due("again", 'n', x.test(B));
        due("again", 'l', x.test(C));
        due("still three", 3, x.tests());
        unsupported("function", () -> x.test(D));
        unsupported("data", () -> x.test(E));
        unsupported("constructor", () -> x.test(F));
        x.alias(A, 20);
        due("by another name", 'p', x.test(20));
        x.goTo(x.branch());
        due("in another branch", 'p', x.test(20));
        due("still three", 3, x.tests());
        x.work(A);
        defineInt(21, num(4));
        x.job(0, 21);
        x.goOn(0);
        due("only for tests", 3, x.tests());
        due("for a job is not for a test", 'p', x.test(21));
        due("four", 4, x.tests());
    }

    private void promises38To42() {
        begin("promises 38 to 42");
        defineInt(A, num(-3));
        x.stage(B, intToInt(), adder(1));
        x.stageData(C, false, constructors(NO));
        x.stage(D, data(C), make(C, 0, NO));
        x.stage(E, type(), ref(E));
        x.define();
        for (int machine : new int[] {-1, 3}) {
            illegal("machine, ahead of what is missing", () -> x.job(machine, 24));
            illegal("machine", () -> x.goOn(machine));
        }
        illegal("name", () -> x.job(0, 26));
        illegal("name", () -> x.job(0, -1));
        missing("none", () -> x.job(0, 24));
        unsupported("data", () -> x.job(0, C));
        missing("no job", () -> x.jobState(0));
        missing("no job", () -> x.outcome(0));
        missing("no job", () -> x.result(0));
        missing("none waits", () -> x.goOn(0));
        due("job 0", 0, x.job(2, A));
        due("job 1", 1, x.job(2, B));
        due("job 2", 2, x.job(2, D));
        due("job 3", 3, x.job(2, E));
        missing("none waits on this one", () -> x.goOn(1));
        refused("not done", () -> x.outcome(0));
        refused("not done", () -> x.result(0));
        char[] outcomes = {'i', 'f', 'c', 'l'};
        for (int job = 0; job < 4; job++) {
            due("waits", 'w', x.jobState(job));
            due("works", job, x.goOn(2));
            due("done", 'd', x.jobState(job));
            due("outcome", outcomes[job], x.outcome(job));
            final int at = job;
            if (job == 0) {
                due("result", -3, x.result(0));
            } else {
                unsupported("no int", () -> x.result(at));
            }
        }
        missing("none waits any more", () -> x.goOn(2));
        for (int job : new int[] {-1, 4, 99}) {
            missing("job", () -> x.jobState(job));
            missing("job", () -> x.outcome(job));
            missing("job", () -> x.result(job));
        }
        x.down(1);
        refused("down", () -> x.job(1, A));
        refused("down, ahead of none", () -> x.goOn(1));
        unsupported("data, ahead of down", () -> x.job(1, C));
        for (int job = 4; job < 30; job++) {
            due("job", job, x.job(0, A));
        }
        refused("30 jobs", () -> x.job(0, A));
        unsupported("data, ahead of 30", () -> x.job(0, C));
        missing("none, ahead of 30", () -> x.job(0, 24));
        due("of 30 jobs none is dropped", 0, x.collect());
        due("the first one that waits", 4, x.goOn(0));
        missing("no job 30", () -> x.jobState(30));
        due("25 fail", 25, x.down(0));
        due("the last one", 'f', x.jobState(29));
        due("it waits alone", 1, x.retry(29, 2));
        due("and works", 29, x.goOn(2));
        missing("none waits", () -> x.goOn(2));
    }

    /** What was worked out for a job is not taken for another definition, also if the first one is gone. */
    private void promise39Others() {
        begin("promise 39, others");
        defineInt(A, num(7));
        x.job(0, A);
        x.goOn(0);
        x.unname(A);
        x.down(0);
        due("collected", 1, x.collect());
        defineInt(B, num(8));
        defineInt(C, op(ref(B), '+', num(1)));
        x.job(1, B);
        x.job(1, C);
        due("b", 1, x.goOn(1));
        due("c", 2, x.goOn(1));
        due("a was", 7, x.result(0));
        due("b is", 8, x.result(1));
        due("c is", 9, x.result(2));
        due("traffic", 3L, x.traffic());
    }

    private void promise39Order() {
        begin("promise 39");
        defineInt(A, num(1));
        defineInt(B, num(2));
        x.job(0, A);
        x.job(1, B);
        x.job(0, B);
        x.job(1, A);
        due("first of 1", 1, x.goOn(1));
        due("first of 0", 0, x.goOn(0));
        due("then", 2, x.goOn(0));
        due("then", 3, x.goOn(1));
        due("what was worked out before is taken", 2L, x.traffic());
        due("0 has not got b", 1, x.lacking(0, B));
        x.job(2, A);
        x.down(2);
        x.up(2);
        x.job(2, A);
        due("failed ones do not wait", 5, x.goOn(2));
        x.retry(4, 2);
        due("tried again", 4, x.goOn(2));
    }

    private void promise41() {
        begin("promise 41, no other code than what was given");
        defineFunction(A, adder(1));
        defineInt(B, app(ref(A), num(1)));
        x.job(0, B);
        updateFunction(A, adder(5));
        due("the new one", "6", value(B));
        x.goOn(0);
        due("the one that was given", 2, x.result(0));
        x.unname(B);
        due("still", 'i', x.outcome(0));
    }

    private void promises43To45() {
        begin("promises 43 to 45");
        defineInt(A, num(1));
        x.job(0, A);
        x.job(0, A);
        x.job(1, A);
        for (int machine : new int[] {-1, 3}) {
            illegal("down", () -> x.down(machine));
            illegal("up", () -> x.up(machine));
            illegal("retry", () -> x.retry(0, machine));
            missing("job ahead of machine", () -> x.retry(3, machine));
        }
        missing("no job", () -> x.retry(-1, 0));
        refused("it waits", () -> x.retry(0, 0));
        due("it was up", false, x.up(0));
        due("two fail", 2, x.down(0));
        due("0", 'f', x.jobState(0));
        due("1", 'f', x.jobState(1));
        due("2", 'w', x.jobState(2));
        refused("it is down", () -> x.down(0));
        refused("it is down", () -> x.retry(0, 0));
        refused("failed is not done", () -> x.outcome(0));
        refused("failed is not done", () -> x.result(0));
        due("two on 1", 2, x.retry(1, 1));
        due("it waits", 'w', x.jobState(1));
        refused("it waits again", () -> x.retry(1, 1));
        due("in the order of numbers", 1, x.goOn(1));
        refused("it is done", () -> x.retry(1, 2));
        due("it was down", true, x.up(0));
        due("it was up", false, x.up(0));
        due("one on 0", 1, x.retry(0, 0));
        due("fails again", 1, x.down(0));
        due("done ones stay", 'd', x.jobState(1));
        due("none fails", 0, x.down(2));
    }

    private void promises46And47() {
        begin("promises 46 and 47");
        defineData(A, NO, data(A));
        x.stage(B, arrow(data(A), type()), fn(data(A), num(1)));
        x.stage(C, type(), app(ref(B), make(A, 0, NO)));
        x.stage(D, type(), app(ref(E), num(1)));
        x.stage(E, intToInt(), caller(E));
        x.define();
        for (int machine : new int[] {-1, 3}) {
            illegal("machine, ahead of what is missing", () -> x.lacking(machine, 24));
        }
        wrongNames(n -> x.lacking(0, n));
        due("data", 1, x.lacking(0, A));
        due("two", 2, x.lacking(0, B));
        due("three", 3, x.lacking(0, C));
        due("two", 2, x.lacking(0, D));
        due("itself", 1, x.lacking(0, E));
        x.job(0, B);
        x.goOn(0);
        due("two went", 2L, x.traffic());
        due("one is lacking", 1, x.lacking(0, C));
        due("on another one", 3, x.lacking(1, C));
        x.job(0, C);
        x.goOn(0);
        due("just the one that it lacks", 3L, x.traffic());
        x.job(0, D);
        x.goOn(0);
        due("also if it is stopped", 5L, x.traffic());
        x.down(0);
        due("lost", 3, x.lacking(0, C));
        due("down counts", 5L, x.traffic());
        x.up(0);
        due("still lost", 3, x.lacking(0, C));
        x.job(0, C);
        x.goOn(0);
        due("the outcome is taken", 5L, x.traffic());
        x.stage(F, type(), op(ref(C), '+', num(1)));
        x.define();
        x.job(0, F);
        x.goOn(0);
        due("all of them again", 9L, x.traffic());
    }
}
