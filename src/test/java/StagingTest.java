/** Promises 1 to 11: nodes, staging, defining and updating. */
public final class StagingTest extends Check {
    public static void main(String[] args) {
        StagingTest test = new StagingTest();
        test.promise1();
        test.promise2();
        test.promise2Limits();
        test.promise2NodeZero();
        test.promise3();
        test.promise4();
        test.promise5();
        test.promise6();
        test.promise6Groups();
        test.promise6Data();
        test.promise6Again();
        test.promise7();
        test.promise7Names();
        test.promise7OldOnes();
        test.promise7Groups();
        test.promise7Data();
        test.promise8();
        test.promise8Data();
        test.promise8Types();
        test.promise9();
        test.promise10();
        end();
    }

    private void promise1() {
        begin("promise 1");
        due("definitions", 0, x.definitions());
        due("patches", 0, x.patches());
        due("commits", 0, x.commits());
        due("tests", 0, x.tests());
        due("traffic", 0L, x.traffic());
        due("todo", 0, x.todo());
        due("fault", '-', x.fault());
        due("kind", '-', x.kindOf(25));
        due("isSound", true, x.isSound());
        due("line", "", line());
        due("present branch", 0, x.goTo(0));
        due("collect", 0, x.collect());
    }

    private void promise2() {
        begin("promise 2");
        int t = type();
        due("first", 0, t);
        int n = num(Integer.MIN_VALUE);
        int branch = x.node('b', n, NO, 0);
        int plus = x.node('+', NO, NO, 77);
        String kinds = "j>divfao?lrmcb+";
        for (char kind = 0; kind < 300; kind++) {
            if (kinds.indexOf(kind) < 0) {
                final char other = kind;
                illegal("kind " + (int) kind, () -> x.node(other, t, t, t));
            }
        }
        for (int wrong : new int[] {-2, NO, 9999, n, branch, plus}) {
            illegal("> a", () -> x.node('>', wrong, t, 0));
            illegal("> b", () -> x.node('>', t, wrong, 0));
            illegal("f a", () -> x.node('f', wrong, n, 0));
        }
        for (int wrong : new int[] {-2, NO, 9999, t, branch, plus}) {
            illegal("f b", () -> x.node('f', t, wrong, 0));
            illegal("a a", () -> x.node('a', wrong, n, 0));
            illegal("a b", () -> x.node('a', n, wrong, 0));
            illegal("o a", () -> x.node('o', wrong, n, 0));
            illegal("o b", () -> x.node('o', n, wrong, 0));
            illegal("? a", () -> x.node('?', wrong, n, n));
            illegal("? b", () -> x.node('?', n, wrong, n));
            illegal("? c", () -> x.node('?', n, n, wrong));
            illegal("l a", () -> x.node('l', wrong, n, 0));
            illegal("l b", () -> x.node('l', n, wrong, 0));
            illegal("c b", () -> x.node('c', 0, wrong, branch));
            illegal("b a", () -> x.node('b', wrong, NO, 0));
        }
        for (int wrong : new int[] {-2, 9999, t, branch, plus}) {
            illegal("m c", () -> x.node('m', 0, 0, wrong));
        }
        for (int wrong : new int[] {-2, NO, 9999, t, n, plus}) {
            illegal("c c", () -> x.node('c', 0, n, wrong));
        }
        for (int wrong : new int[] {-2, 9999, t, n, plus}) {
            illegal("b b", () -> x.node('b', n, wrong, 0));
        }
        for (int wrong : new int[] {-2, 9999, t, n, branch}) {
            illegal("+ b", () -> x.node('+', t, wrong, 0));
        }
        for (int wrong : new int[] {-2, 9999, n, branch, plus}) {
            illegal("+ a", () -> x.node('+', wrong, NO, 0));
        }
        for (int wrong : new int[] {NO, 26, Integer.MAX_VALUE, Integer.MIN_VALUE}) {
            illegal("d a", () -> x.node('d', wrong, 0, 0));
            illegal("r a", () -> x.node('r', wrong, 0, 0));
            illegal("m a", () -> x.node('m', wrong, 0, NO));
            illegal("c a", () -> x.node('c', wrong, n, branch));
        }
        illegal("v under", () -> x.node('v', NO, 0, 0));
        illegal("v over", () -> x.node('v', 31, 0, 0));
        illegal("o under", () -> x.node('o', n, n, NO));
        illegal("o over", () -> x.node('o', n, n, 5));
        illegal("m b under", () -> x.node('m', 0, NO, n));
        illegal("m b over", () -> x.node('m', 0, 4, n));
        due("next", 4, x.node('v', 30, 99, -99));
        due("r", 5, x.node('r', 25, 0, 0));
        due("d", 6, x.node('d', 25, 0, 0));
        due("m", 7, x.node('m', 25, 3, NO));
        due("c", 8, x.node('c', 25, n, branch));
        due("o", 9, x.node('o', n, n, 4));
        due("+", 10, x.node('+', t, plus, 0));
        due("b", 11, x.node('b', n, branch, 0));
        due("v", 12, x.node('v', 0, 0, 0));
    }

    private void promise2Limits() {
        begin("promise 2, depth");
        int deep = num(1);
        int other = num(2);
        for (int depth = 2; depth <= 20; depth++) {
            deep = op(deep, '+', other);
        }
        final int deepest = deep;
        refused("left", () -> op(deepest, '+', other));
        refused("right", () -> op(other, '+', deepest));
        refused("bound", () -> let(deepest, other));
        refused("test", () -> choice(deepest, other, other));
        refused("else", () -> choice(other, other, deepest));
        refused("argument", () -> make(0, 0, deepest));
        refused("branch", () -> x.node('b', deepest, NO, 0));
        illegal("first the argument", () -> x.node('o', deepest, other, 9));
        int types = type();
        for (int depth = 2; depth <= 20; depth++) {
            types = arrow(types, type());
        }
        final int deepestType = types;
        refused("type", () -> arrow(deepestType, deepestType));
        refused("parameter", () -> fn(deepestType, other));
        refused("constructor", () -> x.node('+', deepestType, NO, 0));
        int chain = NO;
        for (int i = 0; i < 100; i++) {
            chain = x.node('+', type(), chain, 0);
        }
        final int heavy = chain;
        due("a chain is not deep", true, heavy > 0);
        refused("the chain is heavy", () -> x.node('+', NO, heavy, 0));
        begin("promise 2, depth of branches");
        int leaf = num(1);
        int branches = NO;
        for (int i = 0; i < 30; i++) {
            branches = x.node('b', leaf, branches, 0);
        }
        int of = x.node('c', 0, leaf, branches);
        for (int depth = 4; depth <= 20; depth++) {
            of = op(of, '+', leaf);
        }
        final int deepOf = of;
        refused("depth 21", () -> op(deepOf, '+', leaf));
        begin("promise 2, weight");
        int one = num(1);
        int w3 = op(one, '+', one);
        int w7 = op(w3, '+', w3);
        int w15 = op(w7, '+', w7);
        int w31 = op(w15, '+', w15);
        int w63 = op(w31, '+', w31);
        int w127 = op(w63, '+', w63);
        int w191 = op(w127, '+', w63);
        int w199 = op(w191, '+', w7);
        refused("weight 201", () -> op(w199, '+', one));
        refused("weight 201", () -> let(one, w199));
        int w200 = make(0, 0, w199);
        due("weight 200", true, w200 > w199);
        refused("weight 201", () -> make(0, 0, w200));
        refused("weight 255", () -> op(w127, '+', w127));
        begin("promise 2, count");
        for (int i = 0; i < 300; i++) {
            due("number", i, num(i));
        }
        refused("node 300", () -> num(1));
        illegal("first the kind", () -> x.node('z', 0, 0, 0));
    }

    private void promise2NodeZero() {
        begin("promise 2, the node 0 is a constructor");
        due("plus", 0, constructors(NO));
        int chain = 0;
        for (int i = 1; i < 5; i++) {
            x.stageData(A, false, chain);
            due("up to four", '-', x.fault());
            chain = x.node('+', NO, chain, 0);
        }
        x.stageData(A, false, chain);
        due("five", 'k', x.fault());
        x.stageData(A, false, 1);
        x.stage(B, data(A), make(A, 1, NO));
        x.stage(C, type(), cases(A, ref(B), num(3), num(4)));
        x.define();
        due("two constructors", row(30, 0, 2, 0, 0), x.hash(A));
        due("written", "c0 | c1", written(A));
        due("the second one", "c1", value(B));
        due("its branch", "4", value(C));
        x.stage(D, data(A), make(A, 2, NO));
        due("no third one", 't', x.fault());
        begin("promise 2, the node 0 is an argument");
        num(5);
        defineData(A, NO, type(), data(A));
        x.stage(B, data(A), make(A, 1, 0));
        x.define();
        due("row", row(31, 3, x.hash(A), 20, x.hash(A), 1, 11, 5), x.hash(B));
        due("written", "a.c1(5)", written(B));
        due("value", "c1(5)", value(B));
        x.stage(C, data(A), make(A, 0, 0));
        due("one too much", 't', x.fault());
        x.stage(C, data(A), make(A, 2, 0));
        due("of another type", 't', x.fault());
        begin("promise 2, the node 0 is a constructor with what it has");
        due("m", 0, make(A, 1, NO));
        defineData(A, NO, NO);
        x.stage(B, data(A), 0);
        x.define();
        due("value", "c1", value(B));
        due("row", row(31, 3, x.hash(A), 20, x.hash(A), 1), x.hash(B));
        begin("promise 2, the node 0 is a name");
        due("r", 0, ref(B));
        x.stage(A, type(), 0);
        due("none", 'n', x.fault());
        x.stage(B, type(), num(7));
        x.define();
        due("value", "7", value(A));
    }

    private void promise3() {
        begin("promise 3");
        int t = type();
        int n = num(3);
        int plus = constructors(NO);
        int branch = x.node('b', n, NO, 0);
        due("one", 1, x.stage(0, t, n));
        due("two", 2, x.stage(25, t, n));
        due("again", 2, x.stage(0, t, n));
        illegal("name -1", () -> x.stage(-1, t, n));
        illegal("name 26 first", () -> x.stage(26, 999, n));
        missing("no type", () -> x.stage(0, 4, n));
        missing("no type", () -> x.stage(0, -1, n));
        missing("no term, ahead of the sort", () -> x.stage(0, n, 4));
        missing("no term", () -> x.stage(0, t, -1));
        for (int wrong : new int[] {n, plus, branch}) {
            unsupported("type of another sort", () -> x.stage(0, wrong, n));
        }
        for (int wrong : new int[] {t, plus, branch}) {
            unsupported("term of another sort", () -> x.stage(0, t, wrong));
        }
        for (int name = 1; name < 7; name++) {
            due("count", name + 2, x.stage(name, t, n));
        }
        refused("ninth", () -> x.stage(9, t, n));
        refused("ninth, data", () -> x.stageData(9, false, plus));
        unsupported("sort ahead of the count", () -> x.stage(9, n, n));
        due("the eighth again", 8, x.stage(25, t, n));
        due("all are one", 1, x.define());
    }

    private void promise4() {
        begin("promise 4");
        int t = type();
        int n = num(3);
        int plus = constructors(t);
        due("one", 1, x.stageData(0, false, plus));
        due("again", 1, x.stageData(0, true, plus));
        illegal("name first", () -> x.stageData(26, true, 99));
        illegal("name", () -> x.stageData(-1, true, plus));
        missing("node", () -> x.stageData(1, true, 99));
        missing("node", () -> x.stageData(1, true, -1));
        unsupported("type", () -> x.stageData(1, true, t));
        unsupported("term", () -> x.stageData(1, true, n));
        unsupported("branch", () -> x.stageData(1, true, x.node('b', n, NO, 0)));
        x.define();
        due("own number 1", row(30, 1, 1, 1, 1), x.hash(0));
        x.stageData(1, true, plus);
        x.unstage();
        x.stageData(2, true, plus);
        x.stageData(2, false, plus);
        x.stageData(3, true, plus);
        x.stageData(3, true, plus);
        x.define();
        due("without a number", row(30, 0, 1, 1, 1), x.hash(2));
        due("own number 5, after one unstaged and two staged again", row(30, 5, 1, 1, 1), x.hash(3));
        x.stage(4, t, n);
        x.stageData(4, false, plus);
        x.define();
        due("data in place of a term", 'd', x.kindOf(4));
        for (int i = 0; i < 8; i++) {
            x.stage(10 + i, t, n);
        }
        refused("ninth", () -> x.stageData(9, true, plus));
        unsupported("sort ahead of the count", () -> x.stageData(9, true, n));
        due("in place of one", 8, x.stageData(10, true, plus));
        x.define();
        due("no number was lost", row(30, 6, 1, 1, 1), x.hash(10));
    }

    private void promise5() {
        begin("promise 5");
        due("none", 0, x.unstage());
        x.stage(0, type(), num(1));
        x.stageData(1, true, constructors(NO));
        due("two", 2, x.unstage());
        due("none left", 0, x.unstage());
        refused("nothing to define", () -> x.define());
    }

    private void promise6() {
        begin("promise 6");
        refused("nothing", () -> x.define());
        x.stage(A, type(), num(7));
        x.stage(B, type(), num(7));
        x.stage(C, type(), num(-8));
        due("new ones", 2, x.define());
        due("none is staged", 0, x.unstage());
        due("hash", row(31, 1, 11, 7), x.hash(A));
        due("the same", x.hash(A), x.hash(B));
        due("below 0", row(31, 1, 11, -8), x.hash(C));
        x.stage(D, type(), num(7));
        due("there already", 0, x.define());
        due("definitions", 2, x.definitions());
        x.stage(E, type(), num(1));
        x.stage(A, type(), ref(25));
        refused("a name is not free, ahead of the fault", () -> x.define());
        x.unname(A);
        unsupported("fault", () -> x.define());
        x.unstage();
        int t = type();
        int j = intToInt();
        x.stage(F, arrow(j, t), fn(j, let(app(var(0), num(2)), choice(var(0), op(var(1 - 1), '-', num(1)), num(4)))));
        due("one more", 1, x.define());
        due("all kinds of rows", row(31, 2, 2, 1, 1, 1, 13, 2, 1, 1, 17, 14, 12, 0, 11, 2, 16, 12, 0, 15, 1, 12, 0, 11, 1,
            11, 4), x.hash(F));
        x.stage(10, type(), app(ref(F), adder(1)));
        x.define();
        due("a name", row(31, 1, 14, 18, x.hash(F), 13, 1, 15, 0, 12, 0, 11, 1), x.hash(10));
        x.goTo(x.branch());
        x.unname(C);
        x.goTo(0);
        x.commit();
        x.goTo(1);
        x.stage(C, type(), num(-8));
        due("there by the other branch", 0, x.define());
    }

    private void promise6Groups() {
        begin("promise 6, groups");
        int t = intToInt();
        // a needs b and b needs a; c needs both, and d needs itself
        x.stage(A, t, fn(type(), app(ref(B), op(var(0), '-', num(1)))));
        x.stage(B, t, fn(type(), app(ref(A), op(var(0), '-', num(2)))));
        x.stage(C, t, fn(type(), app(ref(A), app(ref(B), var(0)))));
        x.stage(D, t, caller(D));
        due("new ones", 4, x.define());
        long rowA = row(31, 2, 1, 1, 13, 1, 14, 19, 0, 15, 1, 12, 0, 11, 1);
        long rowB = row(31, 2, 1, 1, 13, 1, 14, 19, 0, 15, 1, 12, 0, 11, 2);
        int placeA = rowA < rowB ? 0 : 1;
        long[] whole = placeA == 0
            ? new long[] {32, 2, 31, 2, 1, 1, 13, 1, 14, 19, 1, 15, 1, 12, 0, 11, 1, 31, 2, 1, 1, 13, 1, 14, 19, 0, 15, 1, 12, 0, 11, 2}
            : new long[] {32, 2, 31, 2, 1, 1, 13, 1, 14, 19, 1, 15, 1, 12, 0, 11, 2, 31, 2, 1, 1, 13, 1, 14, 19, 0, 15, 1, 12, 0, 11, 1};
        due("a", row(33, row(whole), placeA), x.hash(A));
        due("b", row(33, row(whole), 1 - placeA), x.hash(B));
        due("c is in no group", row(31, 2, 1, 1, 13, 1, 14, 18, x.hash(A), 14, 18, x.hash(B), 12, 0), x.hash(C));
        due("d", row(33, row(32, 1, 31, 2, 1, 1, 13, 1, 14, 19, 0, 12, 0), 0), x.hash(D));
        // the same ones under other names and in another order
        x.stage(11, t, fn(type(), app(ref(10), op(var(0), '-', num(2)))));
        x.stage(10, t, fn(type(), app(ref(11), op(var(0), '-', num(1)))));
        due("the same", 0, x.define());
        due("a again", x.hash(A), x.hash(10));
        due("b again", x.hash(B), x.hash(11));
        // two with the same rows: places by the order of staging
        x.stage(21, t, caller(20));
        x.stage(20, t, caller(21));
        due("two", 2, x.define());
        long both = row(32, 2, 31, 2, 1, 1, 13, 1, 14, 19, 1, 12, 0, 31, 2, 1, 1, 13, 1, 14, 19, 0, 12, 0);
        due("staged first", row(33, both, 0), x.hash(21));
        due("staged behind", row(33, both, 1), x.hash(20));
        promise6Places();
    }

    private void promise6Places() {
        begin("promise 6, places by hashes");
        Integer[] order = {0, 1, 2, 3};
        long[] keys = new long[4];
        for (int i = 0; i < 4; i++) {
            x.stage(i, intToInt(), fn(type(), app(ref((i + 1) % 4), num(i))));
            keys[i] = row(31, 2, 1, 1, 13, 1, 14, 19, 0, 11, i);
        }
        java.util.Arrays.sort(order, (i, k) -> Long.compare(keys[i], keys[k]));
        java.util.List<Integer> places = java.util.Arrays.asList(order);
        long[] whole = new long[2 + 4 * 11];
        whole[0] = 32;
        whole[1] = 4;
        for (int i = 0; i < 4; i++) {
            long next = places.indexOf((order[i] + 1) % 4);
            long[] own = {31, 2, 1, 1, 13, 1, 14, 19, next, 11, order[i]};
            System.arraycopy(own, 0, whole, 2 + 11 * i, 11);
        }
        due("four", 4, x.define());
        for (int i = 0; i < 4; i++) {
            due("hash of " + i, row(33, row(whole), places.indexOf(i)), x.hash(i));
            due("needs all and itself", 4, x.needed(i));
        }
        due("not in the order of staging", true, !places.equals(java.util.List.of(0, 1, 2, 3)));
    }

    private void promise6Data() {
        begin("promise 6, data");
        x.stageData(A, false, constructors(NO, data(A), arrow(type(), data(A))));
        x.stageData(B, false, constructors(data(A)));
        x.stage(C, data(B), make(B, 0, make(A, 1, make(A, 0, NO))));
        due("new ones", 3, x.define());
        due("a", row(30, 0, 3, 0, 1, 4, 1, 2, 1, 4), x.hash(A));
        due("b", row(30, 0, 1, 1, 3, x.hash(A)), x.hash(B));
        due("c", row(31, 3, x.hash(B), 20, x.hash(B), 0, 20, x.hash(A), 1, 20, x.hash(A), 0), x.hash(C));
        x.stage(D, type(), cases(B, ref(C), cases(A, var(0), num(1), num(2), num(3))));
        x.define();
        due("d", row(31, 1, 21, x.hash(B), 18, x.hash(C), 21, x.hash(A), 12, 0, 11, 1, 11, 2, 11, 3), x.hash(D));
        x.stageData(10, true, constructors(data(10)));
        x.define();
        due("unique", row(30, 1, 1, 1, 4), x.hash(10));
    }

    private void promise6Again() {
        begin("promise 6, drafts that are there already");
        defineData(B, NO, type());
        x.stageData(A, false, constructors(NO, type()));
        x.stage(C, data(A), make(A, 0, NO));
        due("only the term is new", 1, x.define());
        due("it needs the data that is there", true, x.needs(C, B));
        due("one", 1, x.needed(C));
        begin("promise 6, others after a group that is there already");
        defineInt(20, num(9));
        defineData(21, NO, NO);
        x.stage(A, intToInt(), caller(B));
        x.stage(B, intToInt(), caller(A));
        x.define();
        x.stage(C, intToInt(), caller(D));
        x.stage(D, intToInt(), caller(C));
        due("both are there", 0, x.define());
        x.stage(E, type(), num(1));
        x.stage(F, type(), op(ref(E), '+', ref(20)));
        due("two", 2, x.define());
        due("e", 0, x.needed(E));
        due("f", 2, x.needed(F));
        defineInt(22, op(ref(E), '+', num(1)));
        due("e alone", 1, x.needed(22));
        x.stage(10, intToInt(), caller(11));
        x.stage(11, intToInt(), caller(10));
        due("there again", 0, x.define());
        x.stage(12, type(), num(5));
        x.stageData(13, false, constructors(data(21)));
        due("two", 2, x.define());
        due("data", 1, x.needed(13));
        defineInt(23, ref(22));
        due("no data", 2, x.needed(23));
        for (int name : new int[] {A, B, C, D, E, F, 12, 13}) {
            due("anew", x.hash(name), x.hashAnew(name));
        }
        due("sound", true, x.isSound());
    }

    private void promise7() {
        begin("promise 7");
        refused("nothing", () -> x.update());
        defineFunction(A, adder(1));
        defineFunction(B, caller(A));
        defineFunction(C, caller(B));
        defineFunction(D, adder(5));
        long oldC = x.hash(C);
        long oldD = x.hash(D);
        x.stage(E, intToInt(), adder(2));
        refused("no definition", () -> x.update());
        x.unstage();
        x.stageData(A, false, constructors(NO));
        refused("of another kind", () -> x.update());
        x.unstage();
        x.stage(A, type(), adder(2));
        unsupported("fault", () -> x.update());
        due("carried along", 2, updateFunction(A, adder(2)));
        due("none is staged", 0, x.unstage());
        due("b", row(31, 2, 1, 1, 13, 1, 14, 18, x.hash(A), 12, 0), x.hash(B));
        due("c", row(31, 2, 1, 1, 13, 1, 14, 18, x.hash(B), 12, 0), x.hash(C));
        due("d", oldD, x.hash(D));
        due("old ones stay", 7, x.definitions());
        due("patch", 3, x.patchSize(0));
        due("back, by ones that were there", 2, updateFunction(A, adder(1)));
        due("c", oldC, x.hash(C));
        due("no new ones", 7, x.definitions());
        due("no change", 0, updateFunction(A, adder(1)));
        due("a patch of nothing", 0, x.patchSize(2));
        for (int i = 3; i < 20; i++) {
            updateFunction(A, adder(i));
        }
        x.stage(A, intToInt(), adder(50));
        refused("20 patches", () -> x.update());
        x.stage(A, type(), adder(50));
        refused("20 patches ahead of the fault", () -> x.update());
    }

    private void promise7Names() {
        begin("promise 7, names");
        defineFunction(A, adder(1));
        x.alias(A, B);
        x.alias(A, C);
        defineFunction(D, caller(A));
        x.stage(A, intToInt(), adder(2));
        x.stage(B, intToInt(), adder(3));
        due("one", 1, x.update());
        due("staged names keep theirs", true, x.hash(A) != x.hash(B));
        due("of two the later counts", x.hash(B), x.hash(C));
        due("in others too", row(31, 2, 1, 1, 13, 1, 14, 18, x.hash(B), 12, 0), x.hash(D));
        due("patch", 2, x.patchSize(0));
        // names that swap, and a new one that needs what needs the old one
        begin("promise 7, a swap");
        defineFunction(A, adder(1));
        defineFunction(B, adder(2));
        defineFunction(C, fn(type(), app(ref(A), app(ref(B), var(0)))));
        long one = x.hash(A);
        long two = x.hash(B);
        x.stage(A, intToInt(), adder(2));
        x.stage(B, intToInt(), adder(1));
        due("carried", 1, x.update());
        due("a", two, x.hash(A));
        due("b", one, x.hash(B));
        due("each once", row(31, 2, 1, 1, 13, 1, 14, 18, two, 14, 18, one, 12, 0), x.hash(C));
        due("patch", 3, x.patchSize(0));
        begin("promise 7, given ones are carried along");
        defineFunction(A, adder(1));
        defineFunction(B, caller(A));
        x.alias(A, C);
        long old = x.hash(B);
        due("both", 2, updateFunction(A, caller(B)));
        long given = row(31, 2, 1, 1, 13, 1, 14, 18, old, 12, 0);
        due("b needs the given one", row(31, 2, 1, 1, 13, 1, 14, 18, given, 12, 0), x.hash(B));
        due("a is carried along", row(31, 2, 1, 1, 13, 1, 14, 18, x.hash(B), 12, 0), x.hash(A));
        due("another name belongs to the given one", given, x.hash(C));
    }

    /** What was carried along by an earlier update counts no more. */
    private void promise7OldOnes() {
        begin("promise 7, old ones");
        defineInt(A, num(1));
        defineInt(B, op(ref(A), '+', num(1)));
        defineInt(C, num(9));
        int other = x.branch();
        long old = x.hash(B);
        x.stage(A, type(), num(2));
        due("b is carried along", 1, x.update());
        x.goTo(other);
        x.stage(B, type(), op(ref(A), '+', num(5)));
        x.stage(C, type(), op(ref(A), '+', num(1)));
        due("nothing is carried along", 0, x.update());
        due("c has what b had", old, x.hash(C));
        due("b", "(a + 5)", written(B));
    }

    private void promise7Groups() {
        begin("promise 7, groups");
        x.stage(A, intToInt(), fn(type(), app(ref(B), op(var(0), '-', num(1)))));
        x.stage(B, intToInt(), fn(type(), app(ref(A), op(var(0), '-', num(2)))));
        x.define();
        due("b alone", 1, updateFunction(A, adder(9)));
        due("b is no group now", row(31, 2, 1, 1, 13, 1, 14, 18, x.hash(A), 15, 1, 12, 0, 11, 2), x.hash(B));
        due("b needs a", 1, x.needed(B));
        begin("promise 7, what is left of a group");
        // a, b and c need one another; without a there are still b and c
        int t = intToInt();
        x.stage(A, t, fn(type(), app(ref(B), app(ref(C), var(0)))));
        x.stage(B, t, fn(type(), app(ref(A), app(ref(C), var(0)))));
        x.stage(C, t, fn(type(), app(ref(A), app(ref(B), var(0)))));
        x.define();
        long oldB = x.hash(B);
        due("two", 2, updateFunction(A, adder(1)));
        due("b needs three", 3, x.needed(B));
        due("another one", true, oldB != x.hash(B));
        long rowB = row(31, 2, 1, 1, 13, 1, 14, 18, x.hash(A), 14, 19, 0, 12, 0);
        due("b has the same row as c, and its place before", true, rowB != 0);
        long both = row(32, 2, 31, 2, 1, 1, 13, 1, 14, 18, x.hash(A), 14, 19, 1, 12, 0,
            31, 2, 1, 1, 13, 1, 14, 18, x.hash(A), 14, 19, 0, 12, 0);
        due("of the group", true, x.hash(B) == row(33, both, 0) || x.hash(B) == row(33, both, 1));
        due("the other place", true, x.hash(C) == row(33, both, 0) || x.hash(C) == row(33, both, 1));
        due("two places", true, x.hash(B) != x.hash(C));
        due("sound", true, x.isSound());
        begin("promise 7, a group that is carried whole");
        defineFunction(D, adder(1));
        x.stage(A, intToInt(), fn(type(), app(ref(B), app(ref(D), var(0)))));
        x.stage(B, intToInt(), fn(type(), app(ref(A), num(2))));
        x.define();
        due("two", 2, updateFunction(D, adder(2)));
        due("b needs three", 3, x.needed(B));
        due("anew", x.hash(B), x.hashAnew(B));
        begin("promise 7, one of a group has not its type");
        defineInt(D, num(1));
        x.stage(A, intToInt(), fn(type(), app(ref(B), ref(D))));
        x.stage(B, intToInt(), fn(type(), app(ref(A), num(2))));
        x.define();
        long a = x.hash(A);
        x.stage(D, intToInt(), adder(2));
        due("none", 0, x.update());
        due("a stays", a, x.hash(A));
        due("both are to do", 2, x.todo());
        due("a", A, x.todoAt(0));
        due("b", B, x.todoAt(1));
    }

    private void promise7Data() {
        begin("promise 7, data");
        defineData(A, type());
        defineData(B, data(A), data(B));
        x.stageData(C, true, constructors(data(A)));
        x.stage(D, data(A), make(A, 0, num(1)));
        x.stage(E, arrow(data(A), type()), fn(data(A), cases(A, var(0), num(1))));
        x.define();
        x.stageData(A, false, constructors(type(), NO));
        due("both data and the value", 3, x.update());
        due("b", row(30, 0, 2, 1, 3, x.hash(A), 1, 4), x.hash(B));
        due("c keeps its number", row(30, 1, 1, 1, 3, x.hash(A)), x.hash(C));
        due("in its type, too", row(31, 3, x.hash(A), 20, x.hash(A), 0, 11, 1), x.hash(D));
        due("e has too few branches", 1, x.todo());
        due("it is e", E, x.todoAt(0));
        due("sound", true, x.isSound());
    }

    private void promise8() {
        begin("promise 8");
        due("none", '-', x.fault());
        x.stage(A, type(), num(1));
        due("none", '-', x.fault());
        x.stage(B, type(), ref(25));
        due("no such name", 'n', x.fault());
        x.stage(B, type(), ref(A));
        due("staged", '-', x.fault());
        x.stage(A, data(C), num(1));
        due("no such data", 'n', x.fault());
        x.stageData(C, false, constructors(NO));
        due("an int is no data", 't', x.fault());
        x.stage(A, data(C), ref(C));
        due("a name of data is none of a term", 'n', x.fault());
        x.unstage();
        defineInt(A, num(1));
        defineData(C, NO);
        x.stageData(A, false, constructors(NO));
        x.stage(B, type(), ref(A));
        due("not staged as a term, but in the branch", '-', x.fault());
        x.stage(C, type(), num(1));
        x.stage(B, data(C), make(C, 0, NO));
        due("not staged as data, but in the branch", '-', x.fault());
        x.unstage();
        x.stage(B, type(), make(A, 0, NO));
        due("m needs data", 'n', x.fault());
        x.stage(B, type(), cases(A, num(1), num(2)));
        due("c needs data", 'n', x.fault());
        x.stage(B, type(), fn(data(A), num(2)));
        due("f needs data", 'n', x.fault());
    }

    private void promise8Data() {
        begin("promise 8, data");
        x.stageData(A, false, constructors(NO, NO, NO, NO));
        due("four", '-', x.fault());
        x.stageData(A, false, constructors(NO, NO, NO, NO, NO));
        due("five", 'k', x.fault());
        x.stageData(A, false, constructors(NO, NO, NO, NO, data(25)));
        due("names ahead of the number", 'n', x.fault());
        x.stageData(A, false, constructors(data(B)));
        x.stageData(B, false, constructors(NO));
        due("only what was staged ahead", 'n', x.fault());
        x.stageData(A, false, constructors(data(B)));
        due("staged again, behind", '-', x.fault());
        x.unstage();
        defineData(B, type());
        x.stageData(A, false, constructors(data(B)));
        x.stageData(B, false, constructors(NO));
        due("what is staged behind is not meant, but the branch", '-', x.fault());
        x.stage(C, data(A), make(A, 0, make(B, 0, NO)));
        due("so the argument is another data", 't', x.fault());
        x.unstage();
        x.stage(A, type(), ref(25));
        x.stageData(B, false, constructors(NO, NO, NO, NO, NO));
        due("data ahead of terms", 'k', x.fault());
        due("it", B, x.faultName());
        x.unstage();
        x.stage(A, type(), fn(type(), num(1)));
        x.stage(B, type(), ref(25));
        due("names of all terms ahead of types", 'n', x.fault());
        defineInt2();
    }

    private void defineInt2() {
        x.unstage();
        defineInt(D, num(1));
        x.stageData(A, false, constructors(data(D)));
        due("a term in the branch is no data", 'n', x.fault());
        x.unstage();
        x.stage(E, type(), num(1));
        x.stageData(A, false, constructors(data(E)));
        due("a term that is staged is no data", 'n', x.fault());
    }

    private void typed(String what, char want, int type, int term) {
        x.stage(25, type, term);
        due(what, want, x.fault());
        x.unstage();
    }

    private void promise8Types() {
        begin("promise 8, types");
        int t = type();
        int f = intToInt();
        defineFunction(A, adder(1));
        x.stageData(B, false, constructors(NO, t, data(B)));
        x.stageData(C, true, constructors(NO, t, data(B)));
        x.define();
        int b = data(B);
        typed("int", '-', t, num(1));
        typed("no int", 't', f, num(1));
        typed("not bound", 't', t, var(0));
        typed("not bound inside", 't', f, fn(t, var(1)));
        typed("bound", '-', arrow(f, f), fn(f, fn(t, app(var(1), var(0)))));
        typed("bound further in", 't', arrow(f, f), fn(f, fn(t, app(var(0), var(1)))));
        typed("another parameter", 't', f, fn(f, num(1)));
        typed("another body", 't', f, fn(t, adder(1)));
        typed("no function", 't', t, app(num(1), num(1)));
        typed("another argument", 't', t, app(ref(A), ref(A)));
        typed("argument", '-', t, app(ref(A), num(1)));
        typed("left side", 't', t, op(ref(A), '+', num(1)));
        typed("right side", 't', t, op(num(1), '<', ref(A)));
        typed("test", 't', t, choice(ref(A), num(1), num(1)));
        typed("unlike", 't', t, choice(num(1), num(1), ref(A)));
        typed("alike", '-', f, choice(num(1), adder(3), ref(A)));
        typed("let", '-', t, let(ref(A), app(var(0), num(1))));
        typed("let of another", 't', t, let(num(1), app(var(0), num(1))));
        typed("a wrong one that is bound", 't', t, let(var(0), num(1)));
        typed("name", 't', t, ref(A));
        typed("without", '-', b, make(B, 0, NO));
        typed("with too much", 't', b, make(B, 0, num(1)));
        typed("with", '-', b, make(B, 1, num(1)));
        typed("with too little", 't', b, make(B, 1, NO));
        typed("with another", 't', b, make(B, 1, ref(A)));
        typed("itself", '-', b, make(B, 2, make(B, 0, NO)));
        typed("no such constructor", 't', b, make(B, 3, NO));
        typed("other data", 't', b, make(C, 0, NO));
        typed("unique with the argument of another", '-', data(C), make(C, 2, make(B, 0, NO)));
        int value = make(B, 0, NO);
        typed("branches", '-', t, cases(B, value, num(1), var(0), num(3)));
        typed("what is bound", 't', t, cases(B, value, num(1), var(0), var(0)));
        typed("nothing is bound", 't', t, cases(B, value, var(0), var(0), num(3)));
        typed("too few", 't', t, cases(B, value, num(1), var(0)));
        typed("too many", 't', t, cases(B, value, num(1), var(0), num(3), num(4)));
        typed("unlike branches", 't', t, cases(B, value, num(1), var(0), ref(A)));
        typed("of an int", 't', t, cases(B, num(1), num(1), var(0), num(3)));
        typed("of other data", 't', t, cases(C, value, num(1), var(0), num(3)));
        typed("bound around", '-', f, fn(t, cases(B, value, var(0), var(1), num(3))));
        x.stageData(D, false, constructors(NO, type(), data(D)));
        x.define();
        typed("data of the same hash are the same", '-', data(D), make(B, 0, NO));
    }

    private void promise9() {
        begin("promise 9");
        missing("nothing is staged", () -> x.faultName());
        x.stage(A, type(), num(1));
        missing("no fault", () -> x.faultName());
        x.stage(C, type(), ref(25));
        x.stage(B, type(), ref(24));
        due("the first in order", C, x.faultName());
        x.stage(C, type(), ref(25));
        due("staged again, behind", B, x.faultName());
        x.stageData(D, false, constructors(data(25)));
        due("data first", D, x.faultName());
        x.unstage();
        x.stage(E, type(), adder(1));
        x.stage(D, type(), adder(1));
        due("types", E, x.faultName());
    }

    private void promise10() {
        begin("promises 10 and 11");
        due("none at first", 0, x.todo());
        outside("none", () -> x.todoAt(0));
        defineInt(A, num(1));
        x.stage(D, type(), op(ref(A), '+', num(1)));
        x.stage(C, type(), op(ref(D), '+', num(1)));
        x.stage(B, type(), op(ref(A), '*', num(1)));
        x.define();
        x.alias(B, 25);
        x.stage(A, intToInt(), adder(1));
        due("none carried", 0, x.update());
        due("names", 3, x.todo());
        due("b", B, x.todoAt(0));
        due("d", D, x.todoAt(1));
        due("z", 25, x.todoAt(2));
        outside("under", () -> x.todoAt(-1));
        outside("over", () -> x.todoAt(3));
        x.stage(B, type(), num(4));
        x.stage(25, type(), num(5));
        x.stage(A, type(), num(6));
        due("d stays with the old one, which no name has", 0, x.update());
        due("none left", 0, x.todo());
        x.goTo(x.branch());
        x.stage(A, intToInt(), adder(1));
        x.update();
        due("none needs it", 0, x.todo());
    }
}
