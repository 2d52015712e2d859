import java.util.ArrayList;
import java.util.List;
import java.util.function.IntFunction;

/**
 * "If several exceptions apply, the one that is listed first is thrown": for each method each pair of its
 * exceptions that can apply at once; and for each operand the least and the greatest one that there is, and
 * those just outside. That nothing changes is looked at each time; NothingChangesTest looks at it over whole runs.
 */
public final class ExceptionOrderTest extends Check {
    private static final int[] NO_NAMES = {-1, 26, -26, 27, 256, Integer.MIN_VALUE, Integer.MAX_VALUE};
    private static final int[] NO_MACHINES = {-1, 3, 4, Integer.MIN_VALUE, Integer.MAX_VALUE};

    public static void main(String[] args) {
        ExceptionOrderTest test = new ExceptionOrderTest();
        test.node();
        test.stage();
        test.stageFull();
        test.stageData();
        test.define();
        test.update();
        test.faultName();
        test.indices();
        test.names();
        test.allNamesServe();
        test.twoNames();
        test.dataIsNoTerm();
        test.patches();
        test.patchesFull();
        test.branches();
        test.merge();
        test.ancestor();
        test.hashIn();
        test.test();
        test.job();
        test.jobsFull();
        test.goOn();
        test.outcomes();
        test.retry();
        test.downAndUp();
        test.lacking();
        test.shares();
        end();
    }

    /** All that is outside of 0 to count - 1. */
    private static int[] outsideOf(int count) {
        return new int[] {-1, count, count + 1, -count - 1, count + 256, Integer.MIN_VALUE, Integer.MAX_VALUE};
    }

    private void node() {
        begin("node: no such kind or operand, ahead of too many, too deep or too heavy");
        int deep = num(1);
        for (int i = 2; i <= 20; i++) {
            deep = make(0, 0, deep);
        }
        int heavy = num(1);
        for (int i = 0; i < 6; i++) {
            heavy = op(heavy, '+', heavy);
        }
        final int deepest = deep;
        final int heaviest = heavy;
        for (int term : new int[] {deepest, heaviest}) {
            illegal("an operator that is none", () -> x.node('o', term, term, 5));
            illegal("an operator that is none", () -> x.node('o', term, term, -1));
            illegal("a name that is none", () -> x.node('m', 26, 0, term));
            illegal("a constructor that is none", () -> x.node('m', 0, 4, term));
            illegal("a type that is none", () -> x.node('f', term, term, 0));
            illegal("a branch that is none", () -> x.node('c', 0, term, term));
            illegal("a next one that is none", () -> x.node('b', term, term, 0));
            illegal("a kind that is none", () -> x.node('q', term, term, term));
            refused("too deep or too heavy", () -> x.node('o', term, term, 4));
        }
        int told = x.node('i', 0, 0, 0);
        for (int i = told + 1; i < 300; i++) {
            num(i);
        }
        illegal("300 nodes, and no kind", () -> x.node('q', 0, 0, 0));
        illegal("300 nodes, and no name", () -> x.node('r', 26, 0, 0));
        illegal("300 nodes, and no variable", () -> x.node('v', 31, 0, 0));
        illegal("300 nodes, and a node that is none", () -> x.node('a', 0, 300, 0));
        illegal("300 nodes, and another sort", () -> x.node('>', 0, 0, 0));
        refused("300 nodes", () -> x.node('a', 0, 0, 0));
        refused("300 nodes, and too deep", () -> x.node('m', 0, 0, deepest));
        refused("300 nodes, and too heavy", () -> x.node('o', heaviest, heaviest, 0));
        refused("300 nodes", () -> x.node('j', 0, 0, 0));
    }

    private void stage() {
        begin("stage: no such name, no such node, another sort");
        int t = type();
        int n = num(1);
        int branch = x.node('b', n, NO, 0);
        int plus = x.node('+', NO, NO, 0);
        for (int name : NO_NAMES) {
            illegal("name " + name, () -> x.stage(name, t, n));
            illegal("and no such type", () -> x.stage(name, 4, n));
            illegal("and no such term", () -> x.stage(name, t, 4));
            illegal("and of another sort", () -> x.stage(name, n, t));
        }
        for (int node : outsideOf(4)) {
            missing("type " + node, () -> x.stage(A, node, n));
            missing("term " + node, () -> x.stage(A, t, node));
            missing("both " + node, () -> x.stage(A, node, node));
            missing("and a term of another sort", () -> x.stage(A, node, t));
            missing("and a type of another sort", () -> x.stage(A, n, node));
        }
        for (int node : new int[] {n, branch, plus}) {
            unsupported("a type of another sort", () -> x.stage(A, node, n));
        }
        for (int node : new int[] {t, branch, plus}) {
            unsupported("a term of another sort", () -> x.stage(A, t, node));
        }
        unsupported("both", () -> x.stage(A, n, t));
        due("none was staged", 0, x.unstage());
        due("the least name", 1, x.stage(0, t, n));
        due("the greatest one", 2, x.stage(25, t, n));
    }

    private void stageFull() {
        begin("stage and stageData: 8 others are staged, behind all else");
        int t = type();
        int n = num(1);
        int plus = x.node('+', NO, NO, 0);
        for (int name = 0; name < 8; name++) {
            x.stage(name, t, n);
        }
        illegal("name", () -> x.stage(26, t, n));
        missing("node", () -> x.stage(8, t, 3));
        missing("node", () -> x.stage(8, 3, n));
        unsupported("sort", () -> x.stage(8, n, n));
        unsupported("sort", () -> x.stage(8, t, t));
        refused("eight", () -> x.stage(8, t, n));
        illegal("name of data", () -> x.stageData(-1, true, plus));
        missing("node of data", () -> x.stageData(8, true, 3));
        unsupported("sort of data", () -> x.stageData(8, true, n));
        refused("eight", () -> x.stageData(8, true, plus));
        refused("eight", () -> x.stageData(25, false, plus));
        due("not for one of them", 8, x.stage(7, t, n));
        x.define();
        x.stageData(8, true, plus);
        x.define();
        due("no number was lost", row(30, 1, 1, 0), x.hash(8));
    }

    private void stageData() {
        begin("stageData: no such name, no such node, another sort");
        int t = type();
        int n = num(1);
        int branch = x.node('b', n, NO, 0);
        int plus = x.node('+', NO, NO, 0);
        for (int name : NO_NAMES) {
            illegal("name " + name, () -> x.stageData(name, true, plus));
            illegal("and no such node", () -> x.stageData(name, true, 4));
            illegal("and of another sort", () -> x.stageData(name, true, t));
        }
        for (int node : outsideOf(4)) {
            missing("node " + node, () -> x.stageData(A, true, node));
        }
        for (int node : new int[] {t, n, branch}) {
            unsupported("of another sort", () -> x.stageData(A, true, node));
        }
        due("none was staged", 0, x.unstage());
        due("the least name", 1, x.stageData(0, true, plus));
        due("the greatest one", 2, x.stageData(25, true, plus));
        x.define();
        due("the first number", row(30, 1, 1, 0), x.hash(0));
        due("the second one", row(30, 2, 1, 0), x.hash(25));
    }

    private void define() {
        begin("define: nothing is staged, or a name is not free, ahead of a fault");
        int t = type();
        refused("nothing", () -> x.define());
        defineInt(A, num(1));
        refused("nothing any more", () -> x.define());
        x.stage(B, t, ref(25));
        x.stage(A, t, num(2));
        refused("not free, and a fault", () -> x.define());
        x.unstage();
        x.stage(B, t, ref(25));
        unsupported("'n'", () -> x.define());
        x.stage(B, t, adder(1));
        unsupported("'t'", () -> x.define());
        x.stageData(B, false, constructors(NO, NO, NO, NO, NO));
        unsupported("'k'", () -> x.define());
        x.stage(A, t, num(2));
        refused("'k', and not free", () -> x.define());
        x.unname(A);
        unsupported("free now", () -> x.define());
        x.stageData(B, false, constructors(NO));
        due("both", 2, x.define());
    }

    private void update() {
        begin("update: nothing is staged, a name has no definition of the same kind, or 20 patches, ahead of a fault");
        int t = type();
        int fault = adder(1);
        refused("nothing", () -> x.update());
        x.stage(A, t, fault);
        refused("no definition, and a fault", () -> x.update());
        x.unstage();
        defineInt(A, num(1));
        x.stageData(A, false, constructors(data(25)));
        refused("another kind, and a fault", () -> x.update());
        x.unstage();
        x.stage(A, t, fault);
        unsupported("a fault", () -> x.update());
        x.unstage();
        int[] ints = {num(1), num(2)};
        for (int i = 0; i < 20; i++) {
            x.stage(A, t, ints[i % 2]);
            due("update", 0, x.update());
        }
        refused("20 patches, and nothing", () -> x.update());
        x.stage(A, t, ints[0]);
        refused("20 patches", () -> x.update());
        x.stage(A, t, fault);
        refused("20 patches, and a fault", () -> x.update());
        x.stage(B, t, fault);
        refused("all of them", () -> x.update());
    }

    private void faultName() {
        begin("faultName: there is none");
        missing("nothing is staged", () -> x.faultName());
        x.stage(A, type(), num(1));
        missing("no fault", () -> x.faultName());
        x.stage(25, type(), ref(24));
        due("the greatest name", 25, x.faultName());
        x.stage(A, type(), ref(24));
        x.stage(25, type(), num(1));
        due("the least name", A, x.faultName());
    }

    private void indices() {
        begin("todoAt, conflictAt, lineAt: no such one");
        for (int index : outsideOf(0)) {
            outside("to do " + index, () -> x.todoAt(index));
            outside("conflict " + index, () -> x.conflictAt(index));
            outside("character " + index, () -> x.lineAt(index));
        }
        defineInt(A, num(1));
        defineInt(B, op(ref(A), '+', num(2)));
        defineInt(C, num(77));
        x.branch();
        x.stage(A, intToInt(), adder(1));
        x.update();
        x.goTo(1);
        x.unname(A);
        defineInt(A, num(9));
        x.merge(0);
        x.writeValue(C);
        due("to do", B, x.todoAt(0));
        due("a conflict", A, x.conflictAt(0));
        due("a character", '7', x.lineAt(1));
        for (int index : outsideOf(1)) {
            outside("to do " + index, () -> x.todoAt(index));
            outside("conflict " + index, () -> x.conflictAt(index));
        }
        for (int index : outsideOf(2)) {
            outside("character " + index, () -> x.lineAt(index));
        }
    }

    /** The methods that take one name, and need a definition that has it. */
    private List<IntFunction<Object>> ofOneName() {
        List<IntFunction<Object>> all = new ArrayList<>();
        all.add(n -> x.hash(n));
        all.add(n -> x.hashAnew(n));
        all.add(n -> x.needed(n));
        all.add(n -> x.unname(n));
        all.add(n -> x.work(n));
        all.add(n -> x.writeValue(n));
        all.add(n -> x.test(n));
        all.add(n -> x.writeTerm(n));
        all.add(n -> x.writeType(n));
        all.add(n -> x.job(0, n));
        all.add(n -> x.lacking(0, n));
        all.add(n -> x.needs(n, A));
        all.add(n -> x.needs(A, n));
        all.add(n -> x.alias(n, A));
        return all;
    }

    private void names() {
        begin("no such name, ahead of no definition that has it");
        defineInt(A, num(1));
        int number = 0;
        for (IntFunction<Object> method : ofOneName()) {
            for (int name : NO_NAMES) {
                illegal("method " + number + ", name " + name, () -> method.apply(name));
            }
            for (int name = 1; name < 26; name++) {
                final int free = name;
                missing("method " + number + ", name " + name, () -> method.apply(free));
            }
            number++;
        }
        for (int name : NO_NAMES) {
            illegal("kindOf " + name, () -> x.kindOf(name));
            illegal("alias to " + name, () -> x.alias(A, name));
        }
        for (int name = 1; name < 26; name++) {
            due("kindOf " + name, '-', x.kindOf(name));
        }
        begin("no definition has a name in this branch");
        defineInt(A, num(1));
        x.branch();
        x.unname(A);
        x.stage(A, type(), num(1));
        number = 0;
        for (IntFunction<Object> method : ofOneName()) {
            missing("method " + number, () -> method.apply(A));
            number++;
        }
    }

    private void allNamesServe() {
        for (int name : new int[] {0, 25}) {
            begin("the name " + name + " is one");
            defineInt(name, num(3));
            int other = 25 - name;
            due("kind", 't', x.kindOf(name));
            due("hash", row(31, 1, 11, 3), x.hash(name));
            due("anew", row(31, 1, 11, 3), x.hashAnew(name));
            due("needed", 0, x.needed(name));
            due("needs", false, x.needs(name, name));
            due("work", 'i', x.work(name));
            due("value", "3", value(name));
            due("test", 'p', x.test(name));
            due("term", "3", written(name));
            due("type", 3, x.writeType(name));
            due("job", 0, x.job(2, name));
            due("lacking", 1, x.lacking(2, name));
            due("alias", 2, x.alias(name, other));
            due("back", 2, x.alias(other, name));
            due("commit", 0, x.commit());
            due("in the commit", (int) (row(31, 1, 11, 3) >> 32), x.hashIn(0, name));
            due("unname", 1, x.unname(name));
            due("the other one", 0, x.unname(other));
        }
    }

    private void twoNames() {
        begin("no such name, for either, ahead of no definition for either");
        defineInt(A, num(1));
        for (int name : NO_NAMES) {
            illegal("needs, the first", () -> x.needs(name, A));
            illegal("needs, the second", () -> x.needs(A, name));
            illegal("needs, both", () -> x.needs(name, name));
            illegal("needs, the first, and the second is free", () -> x.needs(name, B));
            illegal("needs, the second, and the first is free", () -> x.needs(B, name));
            illegal("alias, the first", () -> x.alias(name, B));
            illegal("alias, the second", () -> x.alias(A, name));
            illegal("alias, both", () -> x.alias(name, name));
            illegal("alias, the second, and the first is free", () -> x.alias(B, name));
        }
        missing("needs, the first", () -> x.needs(B, A));
        missing("needs, the second", () -> x.needs(A, B));
        missing("needs, both", () -> x.needs(B, C));
        missing("alias, the first", () -> x.alias(B, A));
        missing("alias, both", () -> x.alias(B, C));
        missing("alias, itself", () -> x.alias(B, B));
        due("alias to a free one", 2, x.alias(A, B));
    }

    private void dataIsNoTerm() {
        begin("it is data");
        defineData(A, NO);
        defineData(25, type());
        for (int name : new int[] {A, 25}) {
            unsupported("work", () -> x.work(name));
            unsupported("value", () -> x.writeValue(name));
            unsupported("test", () -> x.test(name));
            unsupported("type", () -> x.writeType(name));
            for (int machine = 0; machine < 3; machine++) {
                final int at = machine;
                unsupported("job", () -> x.job(at, name));
                due("lacking", 1, x.lacking(at, name));
            }
        }
        due("no test", 0, x.tests());
    }

    private void patches() {
        begin("no such patch, for either");
        defineInt(A, num(1));
        for (int count = 0; count <= 3; count++) {
            for (int patch : outsideOf(count)) {
                missing("size of " + patch, () -> x.patchSize(patch));
                missing("apply " + patch, () -> x.apply(patch));
                missing("compose " + patch, () -> x.compose(patch, 0));
                missing("compose with " + patch, () -> x.compose(0, patch));
                missing("merge " + patch, () -> x.mergePatches(patch, 0));
                missing("merge with " + patch, () -> x.mergePatches(0, patch));
                missing("both", () -> x.compose(patch, patch));
                missing("both", () -> x.mergePatches(patch, patch));
            }
            x.stage(A, type(), num(count + 2));
            x.update();
            due("patches", count + 1, x.patches());
            due("size", 1, x.patchSize(count));
        }
    }

    private void patchesFull() {
        begin("20 patches, behind no such patch");
        defineInt(A, num(1));
        int[] ints = {num(1), num(2)};
        for (int i = 0; i < 20; i++) {
            x.stage(A, type(), ints[i % 2]);
            x.update();
        }
        for (int patch : outsideOf(20)) {
            missing("compose " + patch, () -> x.compose(patch, 19));
            missing("compose with " + patch, () -> x.compose(19, patch));
            missing("merge " + patch, () -> x.mergePatches(patch, 19));
            missing("merge with " + patch, () -> x.mergePatches(19, patch));
        }
        refused("compose", () -> x.compose(0, 19));
        refused("merge", () -> x.mergePatches(19, 0));
    }

    private void branches() {
        begin("no such branch");
        for (int count = 1; count <= 5; count++) {
            for (int branch : outsideOf(count)) {
                missing("go to " + branch, () -> x.goTo(branch));
                missing("merge " + branch, () -> x.merge(branch));
            }
            for (int branch = 0; branch < count; branch++) {
                x.goTo(branch);
                final int present = branch;
                illegal("merge the present one", () -> x.merge(present));
            }
            if (count < 5) {
                due("branch", count, x.branch());
            }
        }
        refused("a sixth one", () -> x.branch());
    }

    private void merge() {
        begin("merge: no such branch, the present one, 40 commits");
        defineInt(A, num(1));
        x.branch();
        for (int i = 0; i < 40; i++) {
            x.commit();
        }
        x.goTo(1);
        x.unname(A);
        for (int branch : outsideOf(2)) {
            missing("branch " + branch, () -> x.merge(branch));
        }
        illegal("the present one", () -> x.merge(1));
        refused("40", () -> x.merge(0));
        refused("40", () -> x.commit());
        x.goTo(0);
        illegal("the present one", () -> x.merge(0));
        refused("40", () -> x.merge(1));
    }

    private void ancestor() {
        begin("ancestor: no such commit, for either, ahead of none in common");
        for (int commit : outsideOf(0)) {
            missing("commit " + commit, () -> x.ancestor(commit, commit));
        }
        x.branch();
        x.commit();
        x.goTo(1);
        x.commit();
        for (int commit : outsideOf(2)) {
            missing("the first " + commit, () -> x.ancestor(commit, 0));
            missing("the second " + commit, () -> x.ancestor(0, commit));
            missing("both " + commit, () -> x.ancestor(commit, commit));
        }
        unsupported("none in common", () -> x.ancestor(0, 1));
        unsupported("none in common", () -> x.ancestor(1, 0));
        due("itself", 1, x.ancestor(1, 1));
    }

    private void hashIn() {
        begin("hashIn: no such commit, or none in it, and no such name");
        defineInt(A, num(1));
        for (int commit : outsideOf(0)) {
            missing("commit " + commit, () -> x.hashIn(commit, A));
            for (int name : NO_NAMES) {
                missing("and no such name", () -> x.hashIn(commit, name));
            }
        }
        x.commit();
        for (int commit : outsideOf(1)) {
            missing("commit " + commit, () -> x.hashIn(commit, A));
            for (int name : NO_NAMES) {
                missing("and no such name", () -> x.hashIn(commit, name));
            }
        }
        for (int name : NO_NAMES) {
            illegal("name " + name, () -> x.hashIn(0, name));
        }
        for (int name = 1; name < 26; name++) {
            final int free = name;
            missing("none in it", () -> x.hashIn(0, free));
        }
        defineInt(B, num(2));
        missing("b was not committed", () -> x.hashIn(0, B));
    }

    private void test() {
        begin("test: its type is not int");
        x.stageData(A, false, constructors(NO));
        x.stage(B, data(A), make(A, 0, NO));
        x.stage(C, intToInt(), adder(1));
        x.stage(D, arrow(type(), data(A)), fn(type(), ref(B)));
        x.stage(E, type(), num(0));
        x.define();
        for (int name : new int[] {A, B, C, D}) {
            unsupported("name " + name, () -> x.test(name));
        }
        due("an int", 'n', x.test(E));
        due("one", 1, x.tests());
    }

    private void job() {
        begin("job: no such machine or name, no definition, data, the machine is down");
        defineInt(A, num(1));
        defineData(B, NO);
        x.down(1);
        for (int machine : NO_MACHINES) {
            illegal("machine " + machine, () -> x.job(machine, A));
            illegal("and a free name", () -> x.job(machine, C));
            illegal("and data", () -> x.job(machine, B));
            illegal("and no name", () -> x.job(machine, 26));
        }
        for (int machine = 0; machine < 3; machine++) {
            final int at = machine;
            for (int name : NO_NAMES) {
                illegal("name " + name, () -> x.job(at, name));
            }
            missing("none", () -> x.job(at, C));
            unsupported("data", () -> x.job(at, B));
        }
        refused("down", () -> x.job(1, A));
        due("up", 0, x.job(0, A));
        due("up", 1, x.job(2, A));
        x.up(1);
        due("up again", 2, x.job(1, A));
    }

    private void jobsFull() {
        begin("job: 30 jobs, behind all else");
        defineInt(A, num(1));
        defineData(B, NO);
        for (int i = 0; i < 30; i++) {
            x.job(i % 3, A);
        }
        illegal("machine", () -> x.job(3, A));
        illegal("machine", () -> x.job(-1, A));
        illegal("name", () -> x.job(0, 26));
        illegal("name", () -> x.job(0, -1));
        missing("none", () -> x.job(0, C));
        unsupported("data", () -> x.job(0, B));
        refused("30", () -> x.job(0, A));
        x.goOn(0);
        x.down(1);
        refused("30, also if one is done", () -> x.job(0, A));
        refused("30, also if some have failed", () -> x.job(2, A));
        refused("30 and down", () -> x.job(1, A));
    }

    private void goOn() {
        begin("goOn: no such machine, it is down, none waits on it");
        defineInt(A, num(1));
        for (int machine : NO_MACHINES) {
            illegal("machine " + machine, () -> x.goOn(machine));
        }
        for (int machine = 0; machine < 3; machine++) {
            final int at = machine;
            missing("none waits", () -> x.goOn(at));
            x.down(machine);
            refused("down, and none waits", () -> x.goOn(at));
            x.up(machine);
            x.job(machine, A);
            due("works", machine, x.goOn(machine));
            missing("none waits any more", () -> x.goOn(at));
        }
        x.job(0, A);
        missing("one waits on another one", () -> x.goOn(1));
        x.down(0);
        refused("down, and one has failed", () -> x.goOn(0));
        x.up(0);
        missing("a failed one does not wait", () -> x.goOn(0));
    }

    private void outcomes() {
        begin("outcome and result: no such job, it is not done, no int came of it");
        x.stage(A, type(), num(1));
        x.stage(B, intToInt(), adder(1));
        x.stageData(C, false, constructors(NO));
        x.stage(D, data(C), make(C, 0, NO));
        x.stage(E, type(), ref(E));
        x.define();
        int[] names = {A, B, D, E};
        for (int count = 0; count < 4; count++) {
            for (int job : outsideOf(count)) {
                missing("state of " + job, () -> x.jobState(job));
                missing("outcome of " + job, () -> x.outcome(job));
                missing("result of " + job, () -> x.result(job));
                missing("retry " + job, () -> x.retry(job, 0));
            }
            x.job(0, names[count]);
            final int job = count;
            refused("it waits", () -> x.outcome(job));
            refused("it waits, and no int will come of it", () -> x.result(job));
        }
        x.down(0);
        for (int i = 0; i < 4; i++) {
            final int job = i;
            refused("it has failed", () -> x.outcome(job));
            refused("it has failed", () -> x.result(job));
            x.retry(job, 1);
            refused("it waits", () -> x.result(job));
            x.goOn(1);
            due("outcome", "ifcl".charAt(job), x.outcome(job));
            if (job > 0) {
                unsupported("no int", () -> x.result(job));
            }
        }
        due("an int", 1, x.result(0));
    }

    private void retry() {
        begin("retry: no such job, no such machine, it has not failed, or the machine is down");
        defineInt(A, num(1));
        x.job(0, A);
        x.job(1, A);
        x.job(2, A);
        x.down(2);
        x.goOn(0);
        for (int machine : NO_MACHINES) {
            missing("no job, and no machine", () -> x.retry(3, machine));
            missing("no job, and no machine", () -> x.retry(-1, machine));
            for (int job = 0; job < 3; job++) {
                final int at = job;
                illegal("machine " + machine + " for " + job, () -> x.retry(at, machine));
            }
        }
        for (int machine = 0; machine < 3; machine++) {
            final int at = machine;
            missing("no job", () -> x.retry(3, at));
            refused("it is done", () -> x.retry(0, at));
            refused("it waits", () -> x.retry(1, at));
        }
        refused("it has failed, and the machine is down", () -> x.retry(2, 2));
        due("on another one", 2, x.retry(2, 1));
        refused("it waits now", () -> x.retry(2, 1));
    }

    private void downAndUp() {
        begin("down and up: no such machine, it is down");
        for (int machine : NO_MACHINES) {
            illegal("down " + machine, () -> x.down(machine));
            illegal("up " + machine, () -> x.up(machine));
        }
        for (int machine = 0; machine < 3; machine++) {
            final int at = machine;
            due("down", 0, x.down(machine));
            refused("down again", () -> x.down(at));
        }
        for (int machine : NO_MACHINES) {
            illegal("down, and none " + machine, () -> x.down(machine));
        }
        for (int machine = 0; machine < 3; machine++) {
            due("up", true, x.up(machine));
            due("up again", false, x.up(machine));
        }
    }

    private void lacking() {
        begin("lacking: no such machine or name, ahead of no definition");
        defineInt(A, num(1));
        for (int machine : NO_MACHINES) {
            illegal("machine " + machine, () -> x.lacking(machine, A));
            illegal("and a free name", () -> x.lacking(machine, B));
            illegal("and no name", () -> x.lacking(machine, 26));
        }
        for (int machine = 0; machine < 3; machine++) {
            final int at = machine;
            for (int name : NO_NAMES) {
                illegal("name " + name, () -> x.lacking(at, name));
            }
            missing("none", () -> x.lacking(at, B));
            due("one", 1, x.lacking(machine, A));
            x.down(machine);
            due("also of one that is down", 1, x.lacking(machine, A));
            illegal("name", () -> x.lacking(at, 26));
            missing("none", () -> x.lacking(at, B));
        }
    }

    private void shares() {
        begin("namedShare and meanNeeded: there are none");
        fails(ArithmeticException.class, "share", () -> x.namedShare());
        fails(ArithmeticException.class, "mean", () -> x.meanNeeded());
        x.stage(A, type(), num(1));
        fails(ArithmeticException.class, "staged ones are none", () -> x.namedShare());
        x.define();
        due("share", 1f, x.namedShare());
        due("mean", 0d, x.meanNeeded());
        x.unname(A);
        due("share without names", 0f, x.namedShare());
        fails(ArithmeticException.class, "mean without names", () -> x.meanNeeded());
    }
}
