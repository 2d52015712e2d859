import java.util.ArrayList;
import java.util.Arrays;
import java.util.List;

/**
 * The sentences of the document from Branches and commits to Writing, and of the promises from 12 on, that name an
 * edge, each with a test of its own that looks at both of its sides.
 */
public final class RunEdgesTest extends Check {
    /** Sums whose hashes have the digit with that index alone unlike that of the int 7. */
    private static final int[][] UNLIKE_AT = {{123983642, 704330576}, {23377056, -895154453}, {31279134, 1517895692},
        {221602053, -1011997121}, {266004965, 1768982500}, {156197163, -520730943}, {493453405, -1936889568},
        {449807051, -341810509}, {17280709, -2101864490}, {101679315, 1154888118}, {62114710, 1605979028},
        {264818997, -409838923}, {29351802, 1226812290}, {36732826, -1435313275}, {320060617, -862595966},
        {240737488, -1551940334}};

    public static void main(String[] args) {
        RunEdgesTest test = new RunEdgesTest();
        test.namesOfADefinition();
        test.neededOnce();
        test.collectedRoots();
        test.collectedGroups();
        test.namesAfterCollecting();
        test.branchAtFirst();
        test.fiveBranches();
        test.fortyCommits();
        test.mergedAsLastCommit();
        test.parents();
        test.mergeTable();
        test.mostConflicts();
        test.mergedAsItIsNow();
        test.mergedTwice();
        test.bases();
        test.branchHasLastCommit();
        test.hashesInCommits();
        test.operatorsGoRound();
        test.choices();
        test.valuesAsTheyAre();
        test.namesBegun();
        test.applicationsBegun();
        test.namesUnderWay();
        test.argumentsAheadOfBodies();
        test.functionsByNames();
        test.bodiesUnderWay();
        test.stopped();
        test.workedOutAnew();
        test.testedOnce();
        test.machinesAtFirst();
        test.thirtyJobs();
        test.orderOfJobs();
        test.workedOutBefore();
        test.gotAndLost();
        test.triedAgain();
        test.jobsKeep();
        test.lettersOfNames();
        test.digitsOfHashes();
        test.digitsOfTypes();
        test.lengthOfTerms();
        test.lengthOfTypes();
        test.lengthOfValues();
        test.lengthOfData();
        test.variablesOutside();
        test.lineAtFirst();
        test.shares();
        test.means();
        test.sound();
        end();
    }

    private static long intHash(long n) {
        return row(31, 1, 11, n);
    }

    // Names

    private void namesOfADefinition() {
        begin("returns how many names it has then, and has left");
        defineInt(A, num(1));
        defineInt(B, num(2));
        due("itself", 1, x.alias(A, A));
        for (int name = 2; name < 26; name++) {
            due("one more", name, x.alias(A, name));
        }
        due("that of another one", 26, x.alias(25, B));
        due("b is a", x.hash(A), x.hash(B));
        due("the other one is there", 2, x.definitions());
        for (int name = 25; name >= 0; name--) {
            due("left", name, x.unname(name));
            due("none then", '-', x.kindOf(name));
        }
        due("both are there", 2, x.definitions());
        due("and are dropped", 2, x.collect());
    }

    private void neededOnce() {
        begin("how many it needs, over others or not, itself only if it needs itself");
        int t = type();
        defineData(A, data(A));
        due("data do not need themselves", 0, x.needed(A));
        due("data", false, x.needs(A, A));
        defineData(B, data(A), data(A), data(B));
        due("each once", 1, x.needed(B));
        due("data", false, x.needs(B, B));
        x.stage(C, t, ref(C));
        x.stage(D, arrow(data(B), t), fn(data(B), ref(C)));
        x.stage(E, arrow(data(B), t), ref(D));
        x.stage(F, t, op(ref(C), '+', op(ref(C), '+', ref(C))));
        x.define();
        due("itself", 1, x.needed(C));
        due("b, a and c", 3, x.needed(D));
        due("b, a, c and d", 4, x.needed(E));
        due("not itself", false, x.needs(E, E));
        due("c once", 1, x.needed(F));
        due("of an int", 0, neededInt());
    }

    private int neededInt() {
        defineInt(20, num(1));
        due("an int does not need itself", false, x.needs(20, 20));
        return x.needed(20);
    }

    // Collecting

    private void collectedRoots() {
        begin("dropped that cannot be reached from names in any branch or commit, from patches, or from jobs not done");
        int t = type();
        int[] ints = new int[10];
        for (int i = 0; i < 10; i++) {
            ints[i] = num(i);
        }
        due("nothing is there", 0, x.collect());
        for (int name = 0; name < 8; name++) {
            x.stage(name, t, ints[name]);
        }
        x.define();
        due("all have names", 0, x.collect());
        x.unname(0);
        due("one has none", 1, x.collect());
        x.branch();
        x.unname(1);
        due("a name in another branch", 0, x.collect());
        x.goTo(1);
        x.commit();
        x.unname(1);
        due("a name in a commit", 0, x.collect());
        x.unname(2);
        x.goTo(0);
        x.unname(2);
        due("that too", 0, x.collect());
        x.stage(3, t, ints[8]);
        x.update();
        x.goTo(1);
        x.stage(9, t, ints[9]);
        x.define();
        x.stage(9, t, ints[0]);
        x.update();
        x.unname(9);
        due("both sides of a patch", 0, x.collect());
        due("what becomes another", 10, x.definitions());
        begin("a job that waits, has failed, and is done");
        int u = type();
        defineInt(A, num(1));
        defineInt(B, op(ref(A), '+', num(1)));
        x.job(0, B);
        x.unname(A);
        x.unname(B);
        due("it waits", 0, x.collect());
        x.down(0);
        due("it has failed", 0, x.collect());
        x.retry(0, 1);
        due("it waits again", 0, x.collect());
        x.goOn(1);
        due("it is done", 2, x.collect());
        due("its result", 2, x.result(0));
        due("no more", 0, x.definitions());
        defineInt(A, num(1));
        due("the machine keeps what it has", 0, x.lacking(1, A));
        due("another has none", 1, x.lacking(2, A));
    }

    private void collectedGroups() {
        begin("what is needed by what stays, stays");
        int t = type();
        for (int i = 0; i < 8; i++) {
            x.stage(i, t, i == 7 ? op(ref(0), '+', ref(0)) : ref(i + 1));
        }
        x.define();
        for (int i = 0; i < 7; i++) {
            x.unname(i);
            due("all of the group", 0, x.collect());
        }
        defineInt(10, ref(7));
        x.unname(7);
        due("over one that needs it", 0, x.collect());
        due("nine", 9, x.definitions());
        due("needed", 8, x.needed(10));
        x.unname(10);
        due("all", 9, x.collect());
        due("none", 0, x.collect());
    }

    private void namesAfterCollecting() {
        begin("what is not dropped stays as it is, under all names of all branches and commits");
        int t = type();
        int[] ints = new int[60];
        for (int i = 0; i < 60; i++) {
            ints[i] = num(i);
        }
        for (int branch = 0; branch < 3; branch++) {
            for (int name = 0; name < 26; name++) {
                if (x.kindOf(name) != '-') {
                    x.unname(name);
                }
                // one that is dropped stands ahead of each one that stays
                x.stage(name, t, op(ints[name], '*', ints[branch]));
                x.define();
                x.unname(name);
                x.stage(name, t, op(ints[name + 30], '+', ints[branch]));
                x.define();
            }
            x.commit();
            if (branch < 2) {
                x.goTo(x.branch());
            }
        }
        for (int name = 0; name < 25; name += 2) {
            x.unname(name);
        }
        due("in three branches one for each name", 3 * 26, x.collect());
        due("as many are left", 3 * 26, x.definitions());
        for (int branch = 2; branch >= 0; branch--) {
            x.goTo(branch);
            for (int name = 0; name < 26; name++) {
                long due = row(31, 1, 15, 0, 11, name + 30, 11, branch);
                if (branch < 2 || name % 2 == 1) {
                    due("hash", due, x.hash(name));
                    due("anew", due, x.hashAnew(name));
                    due("value", String.valueOf(name + 30 + branch), value(name));
                }
                due("in a commit", (int) (due >> 32), x.hashIn(branch, name));
            }
        }
    }

    // Branches and commits

    private void branchAtFirst() {
        begin("there is the branch 0 at first, which is the present one");
        missing("no other one", () -> x.goTo(1));
        missing("no other one to merge", () -> x.merge(1));
        illegal("it is the present one", () -> x.merge(0));
        due("it is", 0, x.goTo(0));
        due("no commit", 0, x.commits());
    }

    private void fiveBranches() {
        begin("at most 5 have numbers from 0");
        for (int branch = 1; branch < 5; branch++) {
            final int next = branch;
            missing("not there yet", () -> x.goTo(next));
            due("branch", branch, x.branch());
            due("the present one stays", branch - 1, x.goTo(branch));
            defineInt(branch, num(branch));
        }
        refused("a sixth one", () -> x.branch());
        missing("none has the number 5", () -> x.goTo(5));
        missing("nor can it be merged", () -> x.merge(5));
        for (int branch = 0; branch < 5; branch++) {
            x.goTo(branch);
            for (int name = 1; name < 5; name++) {
                due("names of " + branch, name <= branch ? 't' : '-', x.kindOf(name));
            }
        }
    }

    private void fortyCommits() {
        begin("at most 40 commits have numbers from 0");
        defineInt(A, num(1));
        x.branch();
        for (int commit = 0; commit < 40; commit++) {
            final int next = commit;
            missing("not there yet", () -> x.hashIn(next, A));
            due("number", commit, x.commit());
            due("how many", commit + 1, x.commits());
        }
        x.unname(A);
        refused("one more", () -> x.commit());
        refused("one more, of two", () -> x.merge(1));
        due("not merged", '-', x.kindOf(A));
        due("the last one", 39, x.ancestor(39, 39));
        due("the first one", 0, x.ancestor(39, 0));
        missing("none has the number 40", () -> x.ancestor(0, 40));
        missing("nor the other one", () -> x.ancestor(40, 0));
        due("its names", (int) (intHash(1) >> 32), x.hashIn(39, A));
    }

    private void mergedAsLastCommit() {
        begin("the last commit is one of two");
        defineInt(A, num(1));
        x.branch();
        for (int commit = 0; commit < 39; commit++) {
            x.commit();
        }
        defineInt(B, num(2));
        x.goTo(1);
        due("merged", 0, x.merge(0));
        due("forty", 40, x.commits());
        due("b", 't', x.kindOf(B));
        due("its parent", 38, x.ancestor(39, 38));
        x.goTo(0);
        refused("one more", () -> x.merge(1));
        illegal("the present one", () -> x.merge(0));
        refused("a commit", () -> x.commit());
    }

    private void parents() {
        begin("has the last one of the branch ahead of it as its parent, if there is one");
        x.branch();
        x.branch();
        due("0", 0, x.commit());
        x.goTo(1);
        due("1", 1, x.commit());
        unsupported("without a parent", () -> x.ancestor(0, 1));
        due("2", 2, x.commit());
        due("1 is the parent of 2", 1, x.ancestor(2, 1));
        unsupported("0 is not", () -> x.ancestor(2, 0));
        x.goTo(2);
        x.merge(1);
        due("of a branch without commits", 2, x.ancestor(3, 2));
        unsupported("not 0", () -> x.ancestor(3, 0));
        x.goTo(0);
        x.merge(2);
        due("two parents, 0", 0, x.ancestor(4, 0));
        due("and 3", 3, x.ancestor(4, 3));
        due("over 3", 2, x.ancestor(2, 4));
    }

    private void set(int name, int value) {
        if (x.kindOf(name) != '-') {
            x.unname(name);
        }
        if (value > 0) {
            x.stage(name, 0, value);
            x.define();
        }
    }

    /** Each name as in the base, here and there, of none and three ints: 64 cases, of which 26 have names at a time. */
    private void mergeTable() {
        for (int first = 0; first < 64; first += 22) {
            begin("a name becomes what it is now in the other branch if it is as in the base; from " + first);
            type();
            for (int i = 1; i <= 3; i++) {
                num(i);
            }
            int count = Math.min(26, 64 - first);
            for (int name = 0; name < count; name++) {
                set(name, (first + name) % 4);
            }
            x.commit();
            x.branch();
            for (int name = 0; name < count; name++) {
                set(name, (first + name) / 4 % 4);
            }
            x.goTo(1);
            for (int name = 0; name < count; name++) {
                set(name, (first + name) / 16);
            }
            x.goTo(0);
            List<Integer> conflicts = new ArrayList<>();
            int[] due = new int[count];
            for (int name = 0; name < count; name++) {
                int base = (first + name) % 4;
                int here = (first + name) / 4 % 4;
                int there = (first + name) / 16;
                due[name] = here == base ? there : here;
                if (here != base && there != base && here != there) {
                    conflicts.add(name);
                }
            }
            due("conflicts", conflicts.size(), x.merge(1));
            for (int name = 0; name < count; name++) {
                checkName("case " + (first + name), name, due[name]);
            }
            for (int i = 0; i < conflicts.size(); i++) {
                due("conflict " + i, conflicts.get(i), x.conflictAt(i));
            }
            outside("over", () -> x.conflictAt(conflicts.size()));
            outside("under", () -> x.conflictAt(-1));
            x.goTo(1);
            for (int name = 0; name < count; name++) {
                checkName("the other branch stays " + (first + name), name, (first + name) / 16);
            }
        }
    }

    private void checkName(String what, int name, int value) {
        due(what, value == 0 ? '-' : 't', x.kindOf(name));
        if (value > 0) {
            due(what, intHash(value), x.hash(name));
        }
    }

    private void mostConflicts() {
        begin("as many conflicts as there are names");
        type();
        num(1);
        num(2);
        for (int name = 0; name < 26; name++) {
            set(name, 1);
        }
        x.branch();
        x.goTo(1);
        for (int name = 0; name < 26; name++) {
            set(name, 2);
        }
        due("all, without a base", 26, x.merge(0));
        for (int i = 0; i < 26; i++) {
            due("conflict", i, x.conflictAt(i));
            due("it stays", intHash(2), x.hash(i));
        }
        outside("26", () -> x.conflictAt(26));
        outside("the greatest", () -> x.conflictAt(Integer.MAX_VALUE));
        outside("the least", () -> x.conflictAt(Integer.MIN_VALUE));
        x.goTo(0);
        due("all, since there is no base for a branch without commits", 26, x.merge(1));
    }

    private void mergedAsItIsNow() {
        begin("what it is now in the other branch, also if that is not committed");
        type();
        num(1);
        num(2);
        set(A, 1);
        x.commit();
        x.branch();
        x.goTo(1);
        set(A, 2);
        set(B, 2);
        x.goTo(0);
        due("none", 0, x.merge(1));
        checkName("a", A, 2);
        checkName("b", B, 2);
        due("in the commit", (int) (intHash(2) >> 32), x.hashIn(1, B));
        due("its parents are the same one", 0, x.ancestor(1, 0));
        begin("and what it is now here");
        type();
        num(1);
        num(2);
        set(A, 1);
        x.commit();
        x.branch();
        set(A, 2);
        due("a stays", 0, x.merge(1));
        checkName("a", A, 2);
    }

    private void mergedTwice() {
        begin("the base is the common ancestor that has the greatest number");
        type();
        num(1);
        num(2);
        num(3);
        set(A, 1);
        x.commit();
        x.branch();
        x.goTo(1);
        set(A, 2);
        x.commit();
        x.goTo(0);
        due("a is 2", 0, x.merge(1));
        x.goTo(1);
        set(A, 3);
        x.commit();
        x.goTo(0);
        due("the base has 2 now", 0, x.merge(1));
        checkName("a", A, 3);
        set(A, 1);
        due("changed here", 0, x.merge(1));
        checkName("a", A, 1);
        x.goTo(1);
        due("the other way, where the base has 3", 0, x.merge(0));
        checkName("a", A, 1);
    }

    private void bases() {
        begin("each one being an ancestor of itself");
        type();
        num(1);
        num(2);
        set(A, 1);
        x.branch();
        x.commit();
        x.goTo(1);
        due("without a commit there is no base", 0, x.merge(0));
        due("it has one now", 0, x.ancestor(1, 0));
        x.goTo(0);
        set(A, 2);
        due("the base is the last one of this branch", 0, x.merge(1));
        checkName("a", A, 2);
        due("ahead of both", 1, x.ancestor(2, 1));
        x.goTo(1);
        due("the base is the last one of that branch", 0, x.merge(0));
        checkName("a", A, 2);
        begin("without a base, it has no names");
        type();
        num(1);
        num(2);
        x.branch();
        set(A, 1);
        set(B, 1);
        x.goTo(1);
        set(B, 2);
        set(C, 2);
        due("b", 1, x.merge(0));
        checkName("a comes", A, 1);
        checkName("b stays", B, 2);
        checkName("c stays", C, 2);
        due("it", B, x.conflictAt(0));
        begin("a base of which both are none");
        type();
        x.branch();
        due("nothing", 0, x.merge(1));
        due("a commit without parents and names", 1, x.commits());
        missing("no name", () -> x.hashIn(0, A));
    }

    private void branchHasLastCommit() {
        begin("a new branch has the names and the last commit of the present one");
        type();
        num(1);
        set(A, 1);
        x.commit();
        x.commit();
        x.branch();
        x.goTo(1);
        x.commit();
        due("2 comes of 1", 1, x.ancestor(2, 1));
        x.goTo(0);
        x.commit();
        due("3, too", 1, x.ancestor(3, 2));
        x.unname(A);
        x.branch();
        x.goTo(2);
        due("names as they are, committed or not", '-', x.kindOf(A));
        x.commit();
        due("4 comes of 3", 3, x.ancestor(4, 3));
        due("4 and 2", 1, x.ancestor(4, 2));
    }

    private void hashesInCommits() {
        begin("the high 32 bits of the hash that a name has in a commit");
        boolean isBelow = false;
        boolean isAbove = false;
        for (int n = 0; n < 26; n++) {
            defineInt(n, num(n * 0x9E3779B9));
            isBelow = isBelow || x.hash(n) < 0;
            isAbove = isAbove || x.hash(n) > 0;
        }
        x.commit();
        for (int n = 0; n < 26; n++) {
            due("name " + n, (int) (intHash(n * 0x9E3779B9) >> 32), x.hashIn(0, n));
            x.unname(n);
        }
        due("some are below 0", true, isBelow);
        due("some are above", true, isAbove);
        x.commit();
        for (int n = 0; n < 26; n++) {
            final int name = n;
            due("still there", (int) (intHash(n * 0x9E3779B9) >> 32), x.hashIn(0, n));
            missing("none in it", () -> x.hashIn(1, name));
        }
        due("none is dropped", 0, x.collect());
    }

    // Working out

    private void operatorsGoRound() {
        int[] ints = {Integer.MIN_VALUE, Integer.MIN_VALUE + 1, -65536, -1, 0, 1, 65536, Integer.MAX_VALUE - 1,
            Integer.MAX_VALUE};
        for (int c = 0; c < 5; c++) {
            begin("ints go round; less and equal give 1 or 0; operator " + c);
            int[] nodes = new int[ints.length];
            for (int i = 0; i < ints.length; i++) {
                nodes[i] = num(ints[i]);
            }
            int t = type();
            for (int i = 0; i < ints.length; i++) {
                for (int k = 0; k < ints.length; k++) {
                    x.stage(A, t, x.node('o', nodes[i], nodes[k], c));
                    x.define();
                    int due = operate(c, ints[i], ints[k]);
                    due(ints[i] + " and " + ints[k], String.valueOf(due), value(A));
                    due("tested", due == 0 ? 'n' : 'p', x.test(A));
                    x.unname(A);
                }
            }
        }
    }

    private static int operate(int c, int left, int right) {
        switch (c) {
            case 0:
                return left + right;
            case 1:
                return left - right;
            case 2:
                return left * right;
            case 3:
                return left < right ? 1 : 0;
            default:
                return left == right ? 1 : 0;
        }
    }

    private void choices() {
        begin("the term b if the term a is not 0, the term c otherwise");
        for (int n : new int[] {Integer.MIN_VALUE, -1, 0, 1, 256, 65536, 1 << 24, Integer.MAX_VALUE}) {
            defineInt(A, choice(num(n), num(11), num(22)));
            due("by " + n, n != 0 ? "11" : "22", value(A));
            x.unname(A);
        }
        x.stage(A, type(), ref(A));
        x.define();
        defineInt(B, choice(num(1), num(3), ref(A)));
        defineInt(C, choice(num(0), ref(A), num(4)));
        defineInt(D, choice(ref(A), num(3), num(4)));
        due("the other one is not worked out", "3", value(B));
        due("the other one is not worked out", "4", value(C));
        due("the first one is", 'l', x.work(D));
    }

    private void valuesAsTheyAre() {
        begin("functions and constructors are values, whose insides are not worked out further");
        x.stage(A, type(), ref(A));
        x.stage(B, arrow(type(), type()), fn(type(), ref(A)));
        x.define();
        due("a function", "fn", value(B));
        due("its kind", 'f', x.work(B));
        defineData(C, type(), arrow(type(), type()), NO);
        x.stage(D, data(C), make(C, 0, ref(A)));
        x.stage(E, data(C), make(C, 1, ref(B)));
        x.stage(F, data(C), make(C, 2, NO));
        x.define();
        due("what a constructor has is worked out", 'l', x.work(D));
        due("a function in it", "c1(fn)", value(E));
        due("without a term", "c2", value(F));
        defineInt(10, cases(C, ref(F), ref(A), ref(A), num(5)));
        due("only the branch of its constructor", "5", value(10));
        defineInt(11, let(ref(A), num(5)));
        due("what is bound is worked out", 'l', x.work(11));
    }

    /** Numbers of names that are begun when they are worked out: of 10 one, of 11 a hundred, of 12 fifty. */
    private void defineHundreds() {
        defineInt(10, num(1));
        int sum = ref(10);
        int one = sum;
        for (int i = 2; i <= 16; i++) {
            sum = op(sum, '+', one);
        }
        defineInt(14, sum);
        int four = op(one, '+', op(one, '+', op(one, '+', one)));
        int sixteen = ref(14);
        int seventeens = op(sixteen, '+', op(sixteen, '+', op(sixteen, '+', op(sixteen, '+', sixteen))));
        defineInt(11, op(seventeens, '+', op(four, '+', op(four, '+', op(four, '+', op(one, '+', one))))));
        int two = op(sixteen, '+', sixteen);
        defineInt(12, op(two, '+', op(four, '+', op(four, '+', op(four, '+', op(one, '+', op(one, '+', one)))))));
    }

    private int sumOf(int... names) {
        int sum = num(0);
        for (int name : names) {
            sum = op(sum, '+', ref(name));
        }
        return sum;
    }

    private void namesBegun() {
        begin("if more than 300 names would be begun, it is stopped");
        defineHundreds();
        due("99 and itself", "94", value(11));
        due("49 and itself", "47", value(12));
        // itself, 2 * 100, 50 and 3 * 16 + 1
        int others = sumOf(11, 11, 12, 10, 10, 10);
        defineInt(13, num(0));
        defineInt(A, op(others, '+', num(0)));
        due("254", "238", value(A));
        int all = op(others, '+', sumOf(12));
        defineInt(B, op(all, '-', ref(13)));
        due("305", 'l', x.work(B));
        // 254 and 17 and 17 and 12 ones
        int most = op(others, '+', sumOf(14, 14, 10, 10, 10, 10, 10, 10, 10, 10, 10, 10, 10, 10));
        defineInt(C, most);
        due("300", 'i', x.work(C));
        due("written", String.valueOf(238 + 32 + 12), value(C));
        defineInt(D, op(most, '+', ref(13)));
        due("301", 'l', x.work(D));
        due("the line is empty", 0, x.writeValue(D));
        due("a name that needs it", 'l', workOf(ref(C)));
    }

    private char workOf(int term) {
        defineInt(25, term);
        char outcome = x.work(25);
        x.unname(25);
        return outcome;
    }

    /** A term that begins as many applications, and is their number. */
    private int apps(int count) {
        int one = app(fn(type(), var(0)), num(1));
        int sum = one;
        for (int i = 1; i < count; i++) {
            sum = op(sum, '+', one);
        }
        return sum;
    }

    private void applicationsBegun() {
        begin("if more than 300 applications would be begun, it is stopped");
        // each calls the last one ten times
        int one = app(fn(type(), var(0)), var(0));
        int ten = one;
        for (int i = 1; i < 9; i++) {
            ten = op(ten, '+', one);
        }
        x.stage(A, intToInt(), fn(type(), ten));
        x.define();
        // a name, an application, and nine in it: eleven
        int eleven = app(ref(A), num(1));
        int sum = eleven;
        for (int i = 1; i < 18; i++) {
            sum = op(sum, '+', eleven);
        }
        defineInt(B, sum);
        due("199", "162", value(B));
        defineInt(C, op(ref(B), '+', op(eleven, '+', apps(11))));
        int nine = op(eleven, '+', op(eleven, '+', op(eleven, '+', eleven)));
        defineInt(D, op(ref(B), '+', op(nine, '+', op(nine, '+', apps(12)))));
        due("1 + 199 + 11 + 11", 'i', x.work(C));
        due("1 + 199 + 88 + 12 is 300", 'i', x.work(D));
        due("its value", String.valueOf(162 + 72 + 12), value(D));
        defineInt(E, op(ref(B), '+', op(nine, '+', op(nine, '+', apps(13)))));
        due("301", 'l', x.work(E));
    }

    private void namesUnderWay() {
        begin("or one while 25 others are under way; names");
        defineInt(0, num(7));
        for (int name = 1; name < 26; name++) {
            defineInt(name, ref(name - 1));
        }
        for (int name = 0; name < 26; name++) {
            due("names: " + (name + 1), name < 25 ? 'i' : 'l', x.work(name));
        }
        due("the value", "7", value(24));
        due("none", 0, x.writeValue(25));
    }

    /** The names 0 to 22 are a chain; what is worked out of name n has n + 1 names under way. */
    private void chain() {
        defineInt(0, num(7));
        for (int name = 1; name < 23; name++) {
            defineInt(name, ref(name - 1));
        }
    }

    private void argumentsAheadOfBodies() {
        begin("an application is begun when its function and argument are worked out");
        chain();
        int function = fn(type(), num(5));
        defineInt(23, app(function, ref(22)));
        due("24 names, and the application behind them", 'i', x.work(23));
        defineInt(24, ref(22));
        x.unname(23);
        defineInt(23, app(function, ref(24)));
        due("25 names", 'i', x.work(23));
        x.unname(23);
        defineInt(23, ref(24));
        defineInt(25, app(function, ref(23)));
        due("26 names, the argument ahead of the body", 'l', x.work(25));
    }

    private void functionsByNames() {
        begin("a name is under way until its term is");
        x.stage(0, intToInt(), adder(1));
        x.define();
        for (int name = 1; name < 24; name++) {
            x.stage(name, intToInt(), ref(name - 1));
            x.define();
        }
        defineInt(24, app(ref(23), num(1)));
        due("25 names, then the application", 'i', x.work(24));
        defineInt(25, app(app(fn(intToInt(), var(0)), ref(23)), num(1)));
        due("then two, one behind the other", 'i', x.work(25));
        x.unname(25);
        x.stage(25, intToInt(), ref(23));
        x.define();
        x.unname(24);
        defineInt(24, app(ref(25), num(1)));
        due("26 names", 'l', x.work(24));
    }

    private void bodiesUnderWay() {
        begin("under way until its body is");
        chain();
        x.stage(23, intToInt(), fn(type(), ref(22)));
        x.define();
        defineInt(24, app(ref(23), num(1)));
        due("the name, the application and 23 names", 'i', x.work(24));
        x.stage(25, intToInt(), fn(type(), app(ref(23), var(0))));
        x.define();
        x.unname(24);
        defineInt(24, app(ref(25), num(1)));
        due("and another application", 'l', x.work(24));
        begin("behind its body it is not under way any more");
        defineInt(A, apps(18));
        due("18, one behind the other", "18", value(A));
        defineInt(B, op(op(ref(A), '+', ref(A)), '+', ref(A)));
        due("54", "54", value(B));
        begin("an application that is the body of another one");
        x.stage(A, intToInt(), fn(type(), nested(num(4), 8)));
        x.define();
        x.stage(C, intToInt(), fn(type(), nested(app(ref(A), num(0)), 5)));
        x.define();
        defineInt(D, nested(app(ref(C), num(0)), 9));
        due("the name, 9 applications, that of c, 5, that of a, and 8", 'i', x.work(D));
        due("its value", "4", value(D));
        defineInt(E, ref(D));
        due("and another name", 'l', x.work(E));
    }

    /** A term in the bodies of as many functions, each of which is applied in that of the next one. */
    private int nested(int term, int count) {
        int all = term;
        for (int i = 0; i < count; i++) {
            all = app(fn(type(), all), num(i));
        }
        return all;
    }

    private void stopped() {
        begin("stopped is 'l' for all that works out");
        x.stage(A, type(), ref(A));
        x.stage(B, intToInt(), fn(type(), app(ref(B), var(0))));
        x.define();
        defineInt(C, app(ref(B), num(1)));
        defineInt(D, num(12));
        for (int name : new int[] {A, C}) {
            due("work", 'l', x.work(name));
            due("test", 'l', x.test(name));
            due("a line before", 2, x.writeValue(D));
            due("value", 0, x.writeValue(name));
            outside("nothing is written", () -> x.lineAt(0));
            x.job(0, name);
            x.goOn(0);
        }
        due("outcome", 'l', x.outcome(0));
        unsupported("no int came of it", () -> x.result(1));
        due("done", 'd', x.jobState(1));
        due("a function that is not applied", 'f', x.work(B));
        due("then nothing is left of it", "12", value(D));
    }

    private void workedOutAnew() {
        begin("a name is worked out anew each time");
        defineHundreds();
        defineInt(A, op(ref(11), '+', op(ref(11), '+', ref(12))));
        due("251", 'i', x.work(A));
        defineInt(B, let(ref(11), op(op(var(0), '+', var(0)), '+', op(var(0), '+', var(0)))));
        due("what is bound is worked out once", String.valueOf(4 * 94), value(B));
        defineInt(C, op(op(ref(11), '+', ref(11)), '+', ref(11)));
        due("301", 'l', x.work(C));
        for (int i = 0; i < 5; i++) {
            due("and anew with each call", 'i', x.work(A));
        }
    }

    private void testedOnce() {
        begin("it is worked out if this definition was never tested");
        due("none", 0, x.tests());
        for (int i = 0; i < 26; i++) {
            defineInt(i, num(i - 3));
            due("outcome", i == 3 ? 'n' : 'p', x.test(i));
            due("tests", i + 1, x.tests());
        }
        for (int i = 0; i < 26; i++) {
            due("again", i == 3 ? 'n' : 'p', x.test(i));
        }
        due("no more", 26, x.tests());
        for (int i = 0; i < 26; i++) {
            x.unname(i);
        }
        x.collect();
        defineInt(A, num(5));
        due("also when it was dropped", 'p', x.test(A));
        due("no more", 26, x.tests());
        x.stage(A, type(), num(99));
        x.update();
        due("another one", 'p', x.test(A));
        due("one more", 27, x.tests());
    }

    // Machines and jobs

    private void machinesAtFirst() {
        begin("the machines 0 to 2 are up at first and have no definitions");
        defineInt(A, num(1));
        for (int machine = 0; machine < 3; machine++) {
            due("lacking", 1, x.lacking(machine, A));
            due("up", false, x.up(machine));
            final int at = machine;
            missing("no jobs", () -> x.goOn(at));
            due("none fails", 0, x.down(machine));
            refused("down", () -> x.goOn(at));
            refused("down", () -> x.job(at, A));
            refused("down", () -> x.down(at));
            due("it was down", true, x.up(machine));
        }
        due("traffic", 0L, x.traffic());
    }

    private void thirtyJobs() {
        begin("30 jobs");
        defineInt(A, num(1));
        defineInt(B, num(2));
        for (int job = 0; job < 30; job++) {
            final int next = job;
            missing("not there yet", () -> x.jobState(next));
            due("number", job, x.job(job % 3, job < 20 ? A : B));
            due("waits", 'w', x.jobState(job));
        }
        for (int machine = 0; machine < 3; machine++) {
            final int at = machine;
            refused("one more", () -> x.job(at, A));
        }
        due("ten fail", 10, x.down(1));
        x.up(1);
        for (int job = 1; job < 30; job += 3) {
            due("failed", 'f', x.jobState(job));
            due("waiting on 2", 10 + (job + 2) / 3, x.retry(job, 2));
        }
        due("20 fail", 20, x.down(2));
        due("0 works", 0, x.goOn(0));
        due("9 fail", 9, x.down(0));
        x.up(0);
        for (int job = 1; job < 30; job++) {
            due("waiting on 0", job, x.retry(job, 0));
        }
        for (int job = 1; job < 30; job++) {
            due("works", job, x.goOn(0));
            due("result", job < 20 ? 1 : 2, x.result(job));
        }
        missing("none waits", () -> x.goOn(0));
        due("done ones do not fail", 0, x.down(0));
        refused("still 30", () -> x.job(1, A));
        due("0 had a, lost it, and got b", 2L, x.traffic());
    }

    private void orderOfJobs() {
        begin("it takes its first waiting job, in the order of their numbers");
        defineInt(A, num(1));
        for (int job = 0; job < 6; job++) {
            x.job(job % 2, A);
        }
        x.down(0);
        x.up(0);
        x.job(0, A);
        x.retry(4, 0);
        x.retry(2, 1);
        x.retry(0, 0);
        int[] ofNought = {0, 4, 6};
        int[] ofOne = {1, 2, 3, 5};
        for (int job : ofNought) {
            due("of 0", job, x.goOn(0));
        }
        for (int job : ofOne) {
            due("of 1", job, x.goOn(1));
        }
        missing("none", () -> x.goOn(0));
        missing("none", () -> x.goOn(1));
    }

    private void workedOutBefore() {
        begin("if this definition was worked out for a job before, wherever, that outcome is taken");
        defineInt(A, num(1));
        defineInt(B, op(ref(A), '+', num(1)));
        x.alias(B, C);
        x.work(B);
        x.test(B);
        x.job(0, B);
        x.goOn(0);
        due("worked out otherwise is not for a job", 2L, x.traffic());
        x.job(1, C);
        x.goOn(1);
        due("taken, under another name", 2L, x.traffic());
        due("its result", 2, x.result(1));
        due("1 got nothing", 2, x.lacking(1, B));
        x.down(0);
        x.up(0);
        x.job(0, B);
        x.goOn(0);
        due("also when the machine was down", 2L, x.traffic());
        due("it has lost them", 2, x.lacking(0, B));
        x.unname(B);
        x.unname(C);
        x.unname(A);
        x.collect();
        defineInt(A, num(1));
        defineInt(B, op(ref(A), '+', num(1)));
        x.job(2, B);
        x.goOn(2);
        due("also when it was dropped", 2L, x.traffic());
        x.job(2, A);
        x.goOn(2);
        due("what it needs was worked out for no job", 3L, x.traffic());
    }

    private void gotAndLost() {
        begin("it gets all that it lacks of those that can be reached from this one, which is counted");
        defineInt(0, num(0));
        for (int name = 1; name < 10; name++) {
            defineInt(name, op(ref(name - 1), '+', num(1)));
        }
        x.job(0, 4);
        x.job(0, 9);
        x.job(1, 7);
        x.job(0, 2);
        x.goOn(0);
        due("five", 5L, x.traffic());
        due("lacking", 5, x.lacking(0, 9));
        due("it lacks none of those", 0, x.lacking(0, 4));
        x.goOn(0);
        due("just five others", 10L, x.traffic());
        x.goOn(1);
        due("another one gets all", 18L, x.traffic());
        x.goOn(0);
        due("it has it", 18L, x.traffic());
        x.down(0);
        due("all are lost", 10, x.lacking(0, 9));
        due("but not of another one", 2, x.lacking(1, 9));
        due("what went there is counted", 18L, x.traffic());
    }

    private void triedAgain() {
        begin("its waiting jobs fail; they can be tried again on another one");
        defineInt(A, num(5));
        x.job(0, A);
        x.job(1, A);
        x.job(0, A);
        refused("it waits", () -> x.retry(0, 1));
        due("two", 2, x.down(0));
        refused("on one that is down", () -> x.retry(0, 0));
        due("two wait on 1 then", 2, x.retry(0, 1));
        refused("it waits", () -> x.retry(0, 2));
        due("one waits on 2 then", 1, x.retry(2, 2));
        x.goOn(1);
        due("0 is done", 'd', x.jobState(0));
        refused("it is done", () -> x.retry(0, 1));
        x.up(0);
        due("one is left on 1", 1, x.down(1));
        due("on the first one again", 1, x.retry(1, 0));
        due("it works", 1, x.goOn(0));
        due("the last one", 2, x.goOn(2));
    }

    private void jobsKeep() {
        begin("no job runs another code than what it was given");
        defineInt(A, num(5));
        defineInt(B, op(ref(A), '+', num(1)));
        x.job(0, B);
        x.stage(A, type(), num(50));
        x.update();
        x.job(0, B);
        x.unname(B);
        x.goTo(x.branch());
        x.collect();
        x.goOn(0);
        x.goOn(0);
        due("the old one", 6, x.result(0));
        due("the new one", 51, x.result(1));
        due("four went there", 4L, x.traffic());
    }

    // Writing

    private void lettersOfNames() {
        begin("by the lowest letter, 'a' to 'z' for the names 0 to 25");
        defineInt(0, num(7));
        defineInt(1, ref(0));
        for (int name = 2; name < 26; name++) {
            x.alias(0, name);
        }
        x.alias(1, 0);
        for (int name = 2; name < 26; name++) {
            due("the lowest one", String.valueOf((char) ('a' + name)), written(0));
            x.unname(name);
        }
        due("none", '#', written(0).charAt(0));
        x.branch();
        x.alias(0, 2);
        defineInt(3, num(7));
        due("d", "d", written(0));
        x.goTo(1);
        due("not that of another branch", '#', written(0).charAt(0));
    }

    private void digitsOfHashes() {
        begin("as many of the 16 hexadecimal digits as are needed, at least 1");
        defineInt(A, num(7));
        defineInt(B, ref(A));
        String hex = String.format("%016x", x.hash(A));
        String other = String.format("%016x", x.hash(B));
        due("unlike from the first one on", true, hex.charAt(0) != other.charAt(0));
        x.unname(A);
        due("at least one", "#" + hex.substring(0, 1), written(B));
        for (int i = 0; i < 16; i++) {
            defineInt(C, op(num(UNLIKE_AT[i][0]), '+', num(UNLIKE_AT[i][1])));
            String unlike = String.format("%016x", x.hash(C));
            due("alike up to " + i, hex.substring(0, i), unlike.substring(0, i));
            due("alike behind " + i, hex.substring(i + 1), unlike.substring(i + 1));
            due("unlike at " + i, true, hex.charAt(i) != unlike.charAt(i));
            due("digits", "#" + hex.substring(0, i + 1), written(B));
            x.unname(C);
            due("also if that has no name", "#" + hex.substring(0, i + 1), written(B));
        }
        due("all are dropped", 16, x.collect());
        due("one again", "#" + hex.substring(0, 1), written(B));
        for (int i = 15; i >= 0; i -= 5) {
            defineInt(C, op(num(UNLIKE_AT[i][0]), '+', num(UNLIKE_AT[i][1])));
            due("one alone", "#" + hex.substring(0, i + 1), written(B));
            x.unname(C);
            x.collect();
        }
    }

    private void digitsOfTypes() {
        begin("data without a name, in types, terms and data");
        defineData(A, NO);
        String hex = String.format("%016x", x.hash(A));
        x.stage(B, arrow(data(A), type()), fn(data(A), cases(A, var(0), num(1))));
        x.stage(C, data(A), make(A, 0, NO));
        x.define();
        defineData(D, data(A), data(D));
        x.unname(A);
        int digits = 1;
        for (int name : new int[] {B, C, D}) {
            while (String.format("%016x", x.hash(name)).startsWith(hex.substring(0, digits))) {
                digits++;
            }
        }
        String by = "#" + hex.substring(0, digits);
        due("in a term", "(x0: " + by + " => (x0 | c0 => 1))", written(B));
        due("in a construction", by + ".c0", written(C));
        due("in data", "c0 " + by + " | c1 .", written(D));
        x.writeType(B);
        due("in a type", "(" + by + " -> int)", line());
        due("the codebase has four", 4, x.definitions());
    }

    /** A term that is written with as many characters, from 193 on. */
    private int longTerm(int length) {
        int ten = num(1111111111);
        int sum = ten;
        for (int i = 1; i < 12; i++) {
            sum = op(sum, '+', ten);
        }
        // 13 numbers of 10 digits, 13 times 5 brackets and signs, and the digits of the last one
        return op(op(sum, '+', num(1111111111)), '+', num((int) Math.pow(10, length - 195 - 1)));
    }

    private void lengthOfTerms() {
        for (int length = 196; length <= 204; length++) {
            begin("at most 200 characters are written; more are cut off; terms of " + length);
            int term = longTerm(length);
            defineInt(A, term);
            String whole = "1111111111";
            for (int i = 0; i < 12; i++) {
                whole = "(" + whole + " + 1111111111)";
            }
            whole = "(" + whole + " + 1" + "0".repeat(length - 196) + ")";
            due("the length", length, whole.length());
            due("the line", whole.substring(0, Math.min(length, 200)), written(A));
            due("its length", Math.min(length, 200), x.writeTerm(A));
            final int most = Math.min(length, 200);
            outside("behind it", () -> x.lineAt(most));
        }
    }

    private void lengthOfTypes() {
        int[][] leaves = {{27, 8, 199}, {28, 5, 200}, {27, 9, 201}, {28, 6, 202}};
        for (int[] leaf : leaves) {
            begin("at most 200 characters are written; types of " + leaf[2]);
            defineData(A, NO);
            int d = data(A);
            int t = type();
            int type = d;
            String whole = "a";
            List<Integer> parts = new ArrayList<>();
            for (int i = 1; i < leaf[0]; i++) {
                parts.add(i <= leaf[1] ? t : d);
            }
            int half = d;
            String halfText = "a";
            for (int i = 0; i < parts.size(); i++) {
                boolean isInt = parts.get(i) == t;
                if (i < 14) {
                    type = arrow(parts.get(i), type);
                    whole = "(" + (isInt ? "int" : "a") + " -> " + whole + ")";
                } else {
                    half = i == 14 ? parts.get(i) : arrow(parts.get(i), half);
                    halfText = i == 14 ? isInt ? "int" : "a" : "(" + (isInt ? "int" : "a") + " -> " + halfText + ")";
                }
            }
            type = arrow(half, type);
            whole = "(" + halfText + " -> " + whole + ")";
            due("the length", leaf[2], whole.length());
            x.stage(B, type, ref(B));
            x.define();
            due("its length", Math.min(leaf[2], 200), x.writeType(B));
            due("the line", whole.substring(0, Math.min(leaf[2], 200)), line());
        }
    }

    private void lengthOfValues() {
        for (int length = 197; length <= 206; length++) {
            begin("at most 200 characters are written; values of " + length);
            defineData(A, type(), data(A));
            int seven = var(0);
            for (int i = 0; i < 7; i++) {
                seven = make(A, 1, seven);
            }
            x.stage(B, arrow(data(A), data(A)), fn(data(A), seven));
            x.define();
            // the constructor c0 and 48 others, each of 4 characters, and an int
            int digits = length - 4 * 49;
            int term = make(A, 0, num((int) Math.pow(10, digits - 1)));
            for (int i = 0; i < 6; i++) {
                term = app(ref(B), term);
            }
            x.stage(C, data(A), make(A, 1, make(A, 1, make(A, 1, make(A, 1, make(A, 1, make(A, 1, term)))))));
            x.define();
            String whole = "c1(".repeat(48) + "c0(1" + "0".repeat(digits - 1) + ")".repeat(49);
            due("the length", length, whole.length());
            due("the line", whole.substring(0, Math.min(length, 200)), value(C));
            due("its length", Math.min(length, 200), x.writeValue(C));
            final int most = Math.min(length, 200);
            outside("behind it", () -> x.lineAt(most));
        }
    }

    private void lengthOfData() {
        begin("at most 200 characters are written; data");
        int type = type();
        String text = "int";
        for (int i = 0; i < 7; i++) {
            type = arrow(type, 0);
            text = "(" + text + " -> int)";
        }
        defineData(A, type, type, type, NO);
        String whole = "c0 " + text + " | c1 " + text + " | c2 " + text + " | c3";
        due("more than 200", true, whole.length() > 200);
        due("the line", whole.substring(0, 200), written(A));
        due("its length", 200, x.writeTerm(A));
        due("the last character", whole.charAt(199), x.lineAt(199));
        outside("behind it", () -> x.lineAt(200));
    }

    private void variablesOutside() {
        begin("variables \"x\" and how many binders are outside of that by which they are bound");
        int t = type();
        defineData(A, NO, t);
        for (int binders = 1; binders <= 12; binders++) {
            int term = num(0);
            StringBuilder due = new StringBuilder();
            for (int i = 0; i < binders; i++) {
                term = let(num(i), i == 0 ? var(binders - 1) : term);
                due.append("(x").append(i).append(" = ").append(binders - 1 - i).append("; ");
            }
            defineInt(B, term);
            due("the outermost of " + binders, due.append("x0").append(")".repeat(binders)).toString(), written(B));
            x.unname(B);
        }
        int inner = cases(A, var(0), var(1), op(var(0), '+', var(2)));
        x.stage(B, arrow(t, arrow(data(A), t)), fn(t, fn(data(A), inner)));
        x.define();
        due("in branches", "(x0: int => (x1: a => (x1 | c0 => x0 | c1 x2 => (x2 + x0))))", written(B));
    }

    private void lineAtFirst() {
        begin("a character of the line, which is empty at first");
        for (int index : new int[] {0, -1, 1, 199, 200, Integer.MIN_VALUE, Integer.MAX_VALUE}) {
            outside("at " + index, () -> x.lineAt(index));
        }
        defineInt(A, num(5));
        outside("defining writes nothing", () -> x.lineAt(0));
        x.work(A);
        x.test(A);
        outside("nor does working out", () -> x.lineAt(0));
        due("one", 1, x.writeTerm(A));
        due("it", '5', x.lineAt(0));
        outside("one more", () -> x.lineAt(1));
        due("three", 3, x.writeType(A));
        due("the last one", 't', x.lineAt(2));
        outside("one more", () -> x.lineAt(3));
        due("one again", 1, x.writeValue(A));
        outside("the rest is gone", () -> x.lineAt(1));
    }

    // Counting

    private void shares() {
        begin("their number divided by that of all, both converted to float");
        for (int n = 1; n <= 26; n++) {
            defineInt(n - 1, num(n));
        }
        due("all", 1f, x.namedShare());
        for (int n = 25; n >= 1; n--) {
            x.unname(n);
            due("named " + n, (float) n / (float) 26, x.namedShare());
        }
        x.alias(0, 5);
        due("one with two names", 1f / 26f, x.namedShare());
        x.unname(0);
        x.unname(5);
        due("none", 0f, x.namedShare());
        x.collect();
        fails(ArithmeticException.class, "no definitions", () -> x.namedShare());
    }

    private void means() {
        begin("the sum divided by the number of these definitions, both converted to double");
        double sum = 0;
        for (int n = 0; n < 26; n++) {
            defineInt(n, n == 0 ? num(1) : ref(n - 1));
            sum += n;
            due("of " + n, sum / (n + 1), x.meanNeeded());
        }
        for (int n = 0; n < 25; n++) {
            x.unname(n);
            sum -= n;
            due("without " + n, sum / (25 - n), x.meanNeeded());
        }
        x.alias(25, 0);
        due("each definition once", 25d, x.meanNeeded());
        x.goTo(x.branch());
        due("in the present branch", 25d, x.meanNeeded());
        x.unname(0);
        x.unname(25);
        fails(ArithmeticException.class, "no names", () -> x.meanNeeded());
        x.goTo(0);
        due("there are some here", 25d, x.meanNeeded());
    }

    private void sound() {
        begin("each definition has the hash under which it is kept, found anew, and each term its type");
        due("of none", true, x.isSound());
        int t = type();
        for (int name = 0; name < 8; name++) {
            x.stage(name, t, op(ref((name + 1) % 8), '+', num(name)));
        }
        x.define();
        due("a group of eight", true, x.isSound());
        for (int name = 0; name < 8; name++) {
            x.stage(name, t, num(name));
            x.update();
            due("without " + name, true, x.isSound());
        }
        Arrays.asList(3, 1, 6).forEach(x::unname);
        x.collect();
        due("after collecting", true, x.isSound());
        for (int name = 0; name < 8; name++) {
            if (x.kindOf(name) != '-') {
                due("anew", x.hash(name), x.hashAnew(name));
            }
        }
    }
}
