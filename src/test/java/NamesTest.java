/** Promises 12 to 20: names, hashes, what needs what, and collecting. */
public final class NamesTest extends Check {
    public static void main(String[] args) {
        NamesTest test = new NamesTest();
        test.promise12();
        test.promises13And14();
        test.promises15And16();
        test.promise17();
        test.promise18();
        test.promise19();
        test.promise20();
        test.promise20Again();
        end();
    }

    private void promise12() {
        begin("promise 12");
        defineInt(A, num(1));
        defineData(25, NO);
        due("term", 't', x.kindOf(A));
        due("data", 'd', x.kindOf(25));
        due("nothing", '-', x.kindOf(B));
        illegal("26", () -> x.kindOf(26));
        illegal("-1", () -> x.kindOf(-1));
        x.stage(B, type(), num(1));
        due("staged is nothing yet", '-', x.kindOf(B));
        x.branch();
        x.unname(A);
        due("unnamed", '-', x.kindOf(A));
        x.goTo(1);
        due("in the other branch", 't', x.kindOf(A));
    }

    private void promises13And14() {
        begin("promises 13 and 14");
        defineData(A, NO, data(A));
        x.stage(B, arrow(data(A), type()), fn(data(A), cases(A, var(0), num(1), app(ref(C), var(0)))));
        x.stage(C, arrow(data(A), type()), fn(data(A), cases(A, var(0), num(2), app(ref(B), var(0)))));
        x.define();
        defineInt(D, app(ref(B), make(A, 1, make(A, 0, NO))));
        due("hash", row(30, 0, 2, 0, 1, 4), x.hash(A));
        for (int name = A; name <= D; name++) {
            due("anew", x.hash(name), x.hashAnew(name));
        }
        due("d", row(31, 1, 14, 18, x.hash(B), 20, x.hash(A), 1, 20, x.hash(A), 0), x.hashAnew(D));
        for (int wrong : new int[] {-1, 26}) {
            illegal("no such name", () -> x.hash(wrong));
            illegal("no such name", () -> x.hashAnew(wrong));
        }
        missing("no definition", () -> x.hash(E));
        missing("no definition", () -> x.hashAnew(E));
    }

    private void promises15And16() {
        begin("promises 15 and 16");
        defineData(A, NO, data(A));
        defineData(B, data(A));
        x.stage(C, data(B), make(B, 0, make(A, 0, NO)));
        x.stage(D, arrow(type(), type()), caller(D));
        x.stage(E, type(), app(ref(D), cases(B, ref(C), num(1))));
        x.stage(F, arrow(data(A), type()), fn(data(A), num(1)));
        x.define();
        due("data do not need themselves", false, x.needs(A, A));
        due("a needs none", 0, x.needed(A));
        due("b needs a", true, x.needs(B, A));
        due("b", 1, x.needed(B));
        due("c needs b and a", 2, x.needed(C));
        due("c needs a over b, too", true, x.needs(C, A));
        due("a does not need c", false, x.needs(A, C));
        due("d needs itself", true, x.needs(D, D));
        due("d", 1, x.needed(D));
        due("e does not need itself", false, x.needs(E, E));
        due("e", 4, x.needed(E));
        due("e over others", true, x.needs(E, A));
        due("f by its type", true, x.needs(F, A));
        due("f not b", false, x.needs(F, B));
        x.alias(D, 20);
        due("by another name", true, x.needs(20, D));
        illegal("first", () -> x.needs(26, 24));
        illegal("second, ahead of what is missing", () -> x.needs(24, -1));
        missing("first", () -> x.needs(24, A));
        missing("second", () -> x.needs(A, 24));
        illegal("name", () -> x.needed(-1));
        illegal("name", () -> x.needed(26));
        missing("none", () -> x.needed(24));
    }

    private void promise17() {
        begin("promise 17");
        defineInt(A, num(1));
        defineInt(B, num(2));
        due("two", 2, x.alias(A, C));
        due("the hash", x.hash(A), x.hash(C));
        due("again", 2, x.alias(C, A));
        due("itself", 2, x.alias(A, A));
        due("takes one away", 3, x.alias(A, B));
        due("b", x.hash(A), x.hash(B));
        illegal("first", () -> x.alias(26, 3));
        illegal("second, ahead of what is missing", () -> x.alias(24, 26));
        illegal("second", () -> x.alias(A, -1));
        missing("none", () -> x.alias(24, A));
        x.branch();
        x.alias(A, 25);
        x.goTo(1);
        due("only in the present branch", '-', x.kindOf(25));
    }

    private void promise18() {
        begin("promise 18");
        defineInt(A, num(1));
        x.alias(A, B);
        due("one left", 1, x.unname(A));
        missing("no longer", () -> x.unname(A));
        due("none left", 0, x.unname(B));
        due("still there", 1, x.definitions());
        illegal("26", () -> x.unname(26));
        illegal("-1", () -> x.unname(-1));
        defineInt(A, num(1));
        due("free again", 't', x.kindOf(A));
    }

    private void promise19() {
        begin("promise 19");
        defineInt(A, num(1));
        defineInt(B, num(1));
        defineData(C, NO);
        due("each hash once", 2, x.definitions());
        x.stage(D, type(), num(4));
        due("not what is staged", 2, x.definitions());
    }

    private void promise20() {
        begin("promise 20");
        due("nothing", 0, x.collect());
        defineFunction(A, adder(1));
        defineFunction(B, caller(A));
        x.unname(A);
        due("needed by b", 0, x.collect());
        x.unname(B);
        x.branch();
        due("both", 2, x.collect());
        due("none left", 0, x.definitions());
        due("nothing more", 0, x.collect());
        defineFunction(A, adder(1));
        x.branch();
        x.unname(A);
        due("a name in another branch", 0, x.collect());
        x.goTo(2);
        x.unname(A);
        defineFunction(B, adder(2));
        x.commit();
        x.unname(B);
        due("but for what a commit has", 1, x.collect());
        due("b", 1, x.definitions());
        defineFunction(C, adder(3));
        updateFunction(C, adder(4));
        defineFunction(D, adder(5));
        x.unname(C);
        x.unname(D);
        due("but for both sides of a patch", 1, x.collect());
        defineInt(E, num(1));
        defineInt(F, num(2));
        defineInt(10, num(3));
        x.job(0, E);
        x.job(1, F);
        x.job(2, 10);
        x.goOn(0);
        x.down(1);
        x.unname(E);
        x.unname(F);
        x.unname(10);
        due("but for jobs that are not done", 1, x.collect());
        due("left", 5, x.definitions());
        due("the outcome stays", 1, x.result(0));
        due("sound", true, x.isSound());
        begin("promise 20, the first name of the first commit");
        defineInt(A, num(1));
        x.commit();
        x.unname(A);
        due("the commit has it", 0, x.collect());
    }

    private void promise20Again() {
        begin("promise 20, made again");
        x.stage(A, intToInt(), fn(type(), app(ref(B), num(1))));
        x.stage(B, intToInt(), fn(type(), app(ref(A), num(2))));
        x.define();
        defineInt(C, app(fn(type(), var(0)), num(4)));
        long hash = x.hash(A);
        due("tested", 'p', x.test(C));
        x.job(0, C);
        x.goOn(0);
        x.unname(A);
        x.unname(B);
        x.unname(C);
        due("all", 3, x.collect());
        x.stage(A, intToInt(), fn(type(), app(ref(B), num(1))));
        x.stage(B, intToInt(), fn(type(), app(ref(A), num(2))));
        x.stage(C, type(), app(fn(type(), var(0)), num(4)));
        due("new again", 3, x.define());
        due("the same hash", hash, x.hash(A));
        due("anew", hash, x.hashAnew(A));
        due("tested once for each hash", 'p', x.test(C));
        due("tests", 1, x.tests());
        due("the machine kept it", 0, x.lacking(0, C));
        due("needs", 2, x.needed(A));
    }
}
