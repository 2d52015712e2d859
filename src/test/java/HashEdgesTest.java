import java.util.ArrayList;
import java.util.Arrays;
import java.util.List;

/**
 * The sentences of the document under Hashes, Defining and updating, and Patches that name an edge, each with a
 * test of its own that looks at both of its sides.
 */
public final class HashEdgesTest extends Check {
    public static void main(String[] args) {
        HashEdgesTest test = new HashEdgesTest();
        test.knownHashes();
        test.hashesOfInts();
        test.hashesOfTypes();
        test.hashesOfTerms();
        test.hashesOfData();
        test.dataItselfAndOthers();
        test.hashesOfAllSizes();
        test.allNamesInOne();
        test.allDataInOne();
        test.needsItself();
        test.ringsOfAllSizes();
        test.lowerLongsFirst();
        test.sameRowsByStaging();
        test.placesBefore();
        test.placesOfWhatIsLeft();
        test.asGreatAsCanBe();
        test.overOthers();
        test.mustBeFree();
        test.mustHaveOne();
        test.stagedLastCounts();
        test.stagedLastIsAsBefore();
        test.withoutNamesBetween();
        test.onlyFromNamesOfTheBranch();
        test.replacedOnce();
        test.replacedInItsType();
        test.staysIfNothingIsReplaced();
        test.allOfItsGroup();
        test.whatNeedsToDo();
        test.givenAndCarried();
        test.replacedByThoseThere();
        test.patchOfNothing();
        test.namesToDo();
        test.lastToDo();
        test.allToDoOnce();
        test.twentyPatches();
        test.sizesOfPatches();
        test.appliedToAllNames();
        test.rings();
        test.ringsInAllOrders();
        test.appliedWithoutNames();
        test.appliedMakesNoPatch();
        test.composedOfNothing();
        test.composedInTurn();
        test.becomesItself();
        test.composedAmongMany();
        test.mergedConflicts();
        end();
    }

    /** The row of a function that calls what a part of a row tells, with an int. */
    private static long[] caller(long[] called, long number) {
        return together(new long[] {31, 2, 1, 1, 13, 1, 14}, called, new long[] {11, number});
    }

    private static long[] together(long[]... rows) {
        int length = Arrays.stream(rows).mapToInt(r -> r.length).sum();
        long[] all = new long[length];
        int at = 0;
        for (long[] row : rows) {
            System.arraycopy(row, 0, all, at, row.length);
            at += row.length;
        }
        return all;
    }

    private static long intHash(long n) {
        return row(31, 1, 11, n);
    }

    // Hashes

    private void knownHashes() {
        begin("hashes that are told under ../shared/tests");
        defineData(A, type(), data(A));
        due("data", 24458338485502302L, x.hash(A));
        defineFunction(B, adder(1));
        due("a function", 2408702176143616425L, x.hash(B));
        due("the same by the rows here", row(31, 2, 1, 1, 13, 1, 15, 0, 12, 0, 11, 1), x.hash(B));
    }

    private void hashesOfInts() {
        begin("'i' 11 and the int, where all goes round");
        int name = 0;
        for (int n : new int[] {Integer.MIN_VALUE, Integer.MIN_VALUE + 1, -2, -1, 0, 1, 2, Integer.MAX_VALUE - 1,
            Integer.MAX_VALUE}) {
            defineInt(name, num(n));
            due("int " + n, intHash(n), x.hash(name));
            due("anew", intHash(n), x.hashAnew(name));
            name++;
        }
        due("each is another one", 9, x.definitions());
    }

    private void hashesOfTypes() {
        begin("of int 1; of a function type 2, then the rows of both; of data 3 and its hash");
        int t = type();
        defineData(A, NO);
        long a = x.hash(A);
        int d = data(A);
        x.stage(B, arrow(t, d), fn(t, make(A, 0, NO)));
        x.stage(C, arrow(d, t), fn(d, num(0)));
        x.stage(D, arrow(arrow(t, d), arrow(d, t)), fn(arrow(t, d), fn(d, num(0))));
        x.define();
        due("to data", row(31, 2, 1, 3, a, 13, 1, 20, a, 0), x.hash(B));
        due("from data", row(31, 2, 3, a, 1, 13, 3, a, 11, 0), x.hash(C));
        due("both", row(31, 2, 2, 1, 3, a, 2, 3, a, 1, 13, 2, 1, 3, a, 13, 3, a, 11, 0), x.hash(D));
    }

    private void hashesOfTerms() {
        begin("rows of terms");
        int t = type();
        int n = num(6);
        int other = num(7);
        String signs = "+-*<=";
        for (int c = 0; c < 5; c++) {
            defineInt(c, op(n, signs.charAt(c), other));
            due("operator " + c, row(31, 1, 15, c, 11, 6, 11, 7), x.hash(c));
        }
        defineInt(5, choice(n, other, op(n, '+', n)));
        due("'?'", row(31, 1, 16, 11, 6, 11, 7, 15, 0, 11, 6, 11, 6), x.hash(5));
        defineInt(6, let(n, let(other, op(var(1), '-', var(0)))));
        due("'l' and 'v'", row(31, 1, 17, 11, 6, 17, 11, 7, 15, 1, 12, 1, 12, 0), x.hash(6));
        defineInt(7, app(fn(t, var(0)), n));
        due("'a' and 'f'", row(31, 1, 14, 13, 1, 12, 0, 11, 6), x.hash(7));
        defineInt(8, ref(7));
        due("'r'", row(31, 1, 18, x.hash(7)), x.hash(8));
        defineData(9, NO, t, NO, data(9));
        long d = x.hash(9);
        for (int b = 0; b < 4; b++) {
            x.stage(10 + b, data(9), make(9, b, b == 1 ? n : b == 3 ? make(9, 2, NO) : NO));
        }
        x.stage(14, t, cases(9, ref(10), n, var(0), other, num(8)));
        x.define();
        due("'m' 0", row(31, 3, d, 20, d, 0), x.hash(10));
        due("'m' 1 and a term", row(31, 3, d, 20, d, 1, 11, 6), x.hash(11));
        due("'m' 2", row(31, 3, d, 20, d, 2), x.hash(12));
        due("'m' 3 and data", row(31, 3, d, 20, d, 3, 20, d, 2), x.hash(13));
        due("'c'", row(31, 1, 21, d, 18, x.hash(10), 11, 6, 12, 0, 11, 7, 11, 8), x.hash(14));
        for (int name = 0; name < 15; name++) {
            due("anew", x.hash(name), x.hashAnew(name));
        }
    }

    private void hashesOfData() {
        begin("of data: 30, its own number or 0, how many constructors, and for each one 0, or 1 and its row");
        int t = type();
        int[] chain = {constructors(NO), constructors(t), constructors(NO, NO), constructors(NO, t),
            constructors(t, NO, t, NO)};
        long[][] rows = {{1, 0}, {1, 1, 1}, {2, 0, 0}, {2, 0, 1, 1}, {4, 1, 1, 0, 1, 1, 0}};
        for (int i = 0; i < chain.length; i++) {
            x.stageData(2 * i, false, chain[i]);
            x.stageData(2 * i + 1, true, chain[i]);
            x.define();
            due("data " + i, row(together(new long[] {30, 0}, rows[i])), x.hash(2 * i));
            due("unique " + i, row(together(new long[] {30, i + 1}, rows[i])), x.hash(2 * i + 1));
            due("anew " + i, x.hash(2 * i), x.hashAnew(2 * i));
            due("anew " + i, x.hash(2 * i + 1), x.hashAnew(2 * i + 1));
        }
    }

    private void dataItselfAndOthers() {
        begin("4 alone for the data itself within it");
        int t = type();
        defineData(A, NO);
        x.stageData(B, false, constructors(data(B), data(A), arrow(data(B), data(A)), arrow(t, data(B))));
        x.stageData(C, false, constructors(data(C), data(A), arrow(data(C), data(A)), arrow(t, data(C))));
        due("both are one", 1, x.define());
        due("b", row(30, 0, 4, 1, 4, 1, 3, x.hash(A), 1, 2, 4, 3, x.hash(A), 1, 2, 1, 4), x.hash(B));
        defineData(D, data(B), data(C), data(D));
        due("others with their hash", row(30, 0, 3, 1, 3, x.hash(B), 1, 3, x.hash(B), 1, 4), x.hash(D));
        due("needed", 2, x.needed(D));
    }

    /** Terms that were looked for, so that their hashes are the least and the greatest longs, and those round 0. */
    private void hashesOfAllSizes() {
        long[] due = {0, 1, -1, Long.MIN_VALUE, Long.MAX_VALUE};
        String[] digits = {"0000000000000000", "0000000000000001", "f", "8", "7"};
        int t = 0;
        for (int first = 0; first < 5; first++) {
            begin("a hash is a long; first " + due[first]);
            t = type();
            int[] terms = {op(num(1865233254), '+', num(1905803928)), op(num(1108190978), '+', num(463588466)),
                op(num(1108190978), '+', num(-463588468)), op(num(-1698401723), '+', num(474463257)),
                op(num(-495287179), '*', num(-690732754))};
            long traffic = 0;
            for (int i = 0; i < 5; i++) {
                int name = (first + i) % 5;
                x.stage(name, t, terms[name]);
                due("a new one", 1, x.define());
                due("hash", due[name], x.hash(name));
                due("anew", due[name], x.hashAnew(name));
                due("tested", 'p', x.test(name));
                due("tests", i + 1, x.tests());
                due("lacking", 1, x.lacking(1, name));
                x.job(1, name);
                x.goOn(1);
                traffic++;
                due("traffic", traffic, x.traffic());
                due("lacking", 0, x.lacking(1, name));
                due("its result", Integer.parseInt(value(name)), x.result(i));
                x.stage(10 + name, t, ref(name));
                x.define();
            }
            x.commit();
            for (int name = 0; name < 5; name++) {
                due("in a commit", (int) (due[name] >> 32), x.hashIn(0, name));
                x.unname(name);
                due("needed", 1, x.needed(10 + name));
            }
            for (int name = 0; name < 5; name++) {
                String hex = String.format("%016x", due[name]);
                String written = written(10 + name).substring(1);
                due("digits", true, hex.startsWith(written) && written.length() >= digits[name].length());
            }
            due("sound", true, x.isSound());
        }
        begin("hashes of all sizes become others and are dropped");
        t = type();
        int nought = op(num(1865233254), '+', num(1905803928));
        int other = op(num(78137184), '+', num(-1012151573));
        defineInt(A, nought);
        x.stage(A, t, op(num(-1698401723), '+', num(474463257)));
        due("0 becomes another one", 0, x.update());
        due("kept", 1, x.patchSize(0));
        x.stage(A, t, nought);
        x.update();
        due("kept", 1, x.patchSize(1));
        due("0 again", 0L, x.hash(A));
        due("it stays", 0, x.collect());
        due("applied", 1, x.apply(0));
        due("the least", Long.MIN_VALUE, x.hash(A));
        begin("another one with the hash 0, which was dropped");
        t = type();
        other = op(num(78137184), '+', num(-1012151573));
        defineInt(A, op(num(1865233254), '+', num(1905803928)));
        x.job(2, A);
        x.goOn(2);
        x.unname(A);
        due("dropped", 1, x.collect());
        x.stage(B, t, other);
        due("new", 1, x.define());
        due("0", 0L, x.hash(B));
        due("the machine has this hash", 0, x.lacking(2, B));
        due("the other one has not", 1, x.lacking(0, B));
    }

    private int sumOfRefs(int from, int to) {
        int middle = (from + to) / 2;
        return from == to ? ref(from) : op(sumOfRefs(from, middle), '+', sumOfRefs(middle + 1, to));
    }

    private long[] rowOfSum(int from, int to, int self) {
        int middle = (from + to) / 2;
        return from != to ? together(new long[] {15, 0}, rowOfSum(from, middle, self), rowOfSum(middle + 1, to, self))
            : from == self ? new long[] {19, 0} : new long[] {18, x.hash(from)};
    }

    private void allNamesInOne() {
        begin("a term with all names in it");
        for (int name = 0; name < 25; name++) {
            defineInt(name, num(name));
        }
        int all = sumOfRefs(0, 25);
        x.stage(25, type(), all);
        due("one", 1, x.define());
        for (int round = 0; round < 3; round++) {
            long[] row = together(new long[] {32, 1, 31, 1}, rowOfSum(0, 25, 25));
            due("hash", row(33, row(row), 0), x.hash(25));
            due("anew", x.hash(25), x.hashAnew(25));
            due("needs all, and itself", 26, x.needed(25));
            for (int name = 0; name < 26; name++) {
                due("needs", true, x.needs(25, name));
            }
            due("reaches all", 26, x.lacking(0, 25));
            x.stage(round * 12, type(), num(100 + round));
            due("carried along", 1, x.update());
            due("by a patch", 2, x.patchSize(round));
        }
        due("three and three more, which patches keep", 0, x.collect());
        due("sound", true, x.isSound());
        begin("what needs all names, after collecting");
        for (int name = 24; name >= 0; name--) {
            defineInt(25, num(-1 - name));
            x.unname(25);
            defineInt(name, num(name));
        }
        all = sumOfRefs(0, 25);
        x.stage(25, type(), all);
        x.define();
        due("the others are dropped", 25, x.collect());
        long[] row = together(new long[] {32, 1, 31, 1}, rowOfSum(0, 25, 25));
        due("hash", row(33, row(row), 0), x.hash(25));
        due("anew", x.hash(25), x.hashAnew(25));
        due("needs all, and itself", 26, x.needed(25));
        for (int name = 0; name < 25; name++) {
            due("name " + name, intHash(name), x.hash(name));
        }
    }

    private int arrowOfData(int from, int to) {
        int middle = (from + to) / 2;
        return from == to ? data(from) : arrow(arrowOfData(from, middle), arrowOfData(middle + 1, to));
    }

    private long[] rowOfArrow(int from, int to, int self) {
        int middle = (from + to) / 2;
        return from != to ? together(new long[] {2}, rowOfArrow(from, middle, self), rowOfArrow(middle + 1, to, self))
            : from == self ? new long[] {4} : new long[] {3, x.hash(from)};
    }

    private void allDataInOne() {
        begin("data with all names in it");
        int plus = constructors(type());
        for (int name = 0; name < 25; name++) {
            x.stageData(name, true, plus);
            x.define();
        }
        int type = arrowOfData(0, 25);
        x.stageData(25, false, constructors(NO, type));
        due("one", 1, x.define());
        due("hash", row(together(new long[] {30, 0, 2, 0, 1}, rowOfArrow(0, 25, 25))), x.hash(25));
        due("needs all", 25, x.needed(25));
        x.stageData(7, true, plus);
        due("carried along", 1, x.update());
        due("hash", row(together(new long[] {30, 0, 2, 0, 1}, rowOfArrow(0, 25, 25))), x.hash(25));
        due("the new one has a number of its own", row(30, 26, 1, 1, 1), x.hash(7));
        due("sound", true, x.isSound());
    }

    private void needsItself() {
        begin("a group is one term that needs itself");
        x.stage(A, intToInt(), fn(type(), app(ref(A), num(3))));
        x.stage(B, intToInt(), fn(type(), app(ref(A), num(3))));
        due("b needs it, but not itself", 2, x.define());
        due("a", row(33, row(together(new long[] {32, 1}, caller(new long[] {19, 0}, 3))), 0), x.hash(A));
        due("b", row(caller(new long[] {18, x.hash(A)}, 3)), x.hash(B));
        due("a needs itself", true, x.needs(A, A));
        due("b does not", false, x.needs(B, B));
        begin("a group of one that needs itself twice");
        x.stage(A, type(), op(ref(A), '+', ref(A)));
        x.define();
        due("a", row(33, row(32, 1, 31, 1, 15, 0, 19, 0, 19, 0), 0), x.hash(A));
    }

    /** What a ring is due to be hashed to: each member calls the next one with its number. */
    private static long[] ring(long[] numbers, Integer[] staged) {
        int n = numbers.length;
        long[] keys = new long[n];
        for (int i = 0; i < n; i++) {
            keys[i] = row(caller(new long[] {19, 0}, numbers[i]));
        }
        List<Integer> order = new ArrayList<>(List.of(staged));
        order.sort((one, other) -> Long.compare(keys[one], keys[other]));
        long[] whole = {32, n};
        for (int member : order) {
            whole = together(whole, caller(new long[] {19, order.indexOf((member + 1) % n)}, numbers[member]));
        }
        long[] hashes = new long[n];
        for (int i = 0; i < n; i++) {
            hashes[i] = row(33, row(whole), order.indexOf(i));
        }
        return hashes;
    }

    private void stageRing(long[] numbers, Integer[] staged) {
        int n = numbers.length;
        for (int member : staged) {
            x.stage(member, intToInt(), fn(type(), app(ref((member + 1) % n), num((int) numbers[member]))));
        }
    }

    private static Integer[] upTo(int n, boolean isDown) {
        Integer[] order = new Integer[n];
        for (int i = 0; i < n; i++) {
            order[i] = isDown ? n - 1 - i : i;
        }
        return order;
    }

    private void ringsOfAllSizes() {
        for (int n = 1; n <= 8; n++) {
            begin("a group of " + n);
            long[] numbers = new long[n];
            for (int i = 0; i < n; i++) {
                numbers[i] = i * 31L - 40;
            }
            stageRing(numbers, upTo(n, false));
            due("new ones", n, x.define());
            long[] due = ring(numbers, upTo(n, false));
            for (int i = 0; i < n; i++) {
                due("member " + i, due[i], x.hash(i));
                due("anew " + i, due[i], x.hashAnew(i));
                due("needs all " + i, n, x.needed(i));
                x.unname(i);
            }
            stageRing(numbers, upTo(n, true));
            due("in another order the same ones", 0, x.define());
            for (int i = 0; i < n; i++) {
                due("member " + i, due[i], x.hash(i));
            }
        }
    }

    private void lowerLongsFirst() {
        begin("in the order of the hashes of their rows with 0 for all places, lower longs first");
        boolean isBelow = false;
        boolean isAbove = false;
        int pairs = 0;
        for (int i = 0; i < 40 && pairs < 12; i++) {
            long[] numbers = {i * 0x9E3779B9, (i + 1) * 0x9E3779B9};
            long one = row(caller(new long[] {19, 0}, numbers[0]));
            long other = row(caller(new long[] {19, 0}, numbers[1]));
            if (one < 0 == other < 0) {
                continue;
            }
            pairs++;
            isBelow = isBelow || one < 0;
            isAbove = isAbove || one > 0;
            stageRing(numbers, upTo(2, pairs % 2 == 0));
            x.define();
            long[] due = ring(numbers, upTo(2, false));
            due("first " + i, due[0], x.hash(0));
            due("second " + i, due[1], x.hash(1));
            due("below 0 is first " + i, row(33, wholeOf(numbers), one < 0 ? 0 : 1), x.hash(0));
            x.unname(0);
            x.unname(1);
        }
        due("some first ones are below 0", true, isBelow);
        due("some are above", true, isAbove);
        due("pairs", 12, pairs);
    }

    /** The hash of a group of two, of which that comes first whose row has a hash below 0. */
    private static long wholeOf(long[] numbers) {
        int first = row(caller(new long[] {19, 0}, numbers[0])) < 0 ? 0 : 1;
        return row(together(new long[] {32, 2}, caller(new long[] {19, 1}, numbers[first]),
            caller(new long[] {19, 0}, numbers[1 - first])));
    }

    private void sameRowsByStaging() {
        for (int n = 2; n <= 8; n++) {
            begin("those with the same ones by the order in which they were staged; " + n);
            long[] numbers = new long[n];
            stageRing(numbers, upTo(n, false));
            // the first one and the one in the middle go behind all others
            Integer[] order = new Integer[n];
            List<Integer> staged = new ArrayList<>(List.of(upTo(n, false)));
            for (int again : new int[] {0, n / 2}) {
                staged.remove((Integer) again);
                staged.add(again);
                x.stage(again, intToInt(), fn(type(), app(ref((again + 1) % n), num(0))));
            }
            staged.toArray(order);
            long[] due = ring(numbers, order);
            due("new ones", n, x.define());
            for (int place = 0; place < n; place++) {
                due("place " + place, due[order[place]], x.hash(order[place]));
            }
            due("sound", true, x.isSound());
        }
    }

    /** A member that calls each other one of those told, and then what is told as D. */
    private int callAll(int[] others) {
        int term = app(ref(D), var(0));
        for (int i = others.length - 1; i >= 0; i--) {
            term = app(ref(others[i]), term);
        }
        return fn(type(), term);
    }

    private void placesBefore() {
        begin("or, if they are carried along, by their places before");
        defineFunction(D, adder(1));
        int[] order = {C, A, B};
        for (int i = 0; i < 3; i++) {
            x.stage(order[i], intToInt(), callAll(new int[] {order[(i + 1) % 3]}));
        }
        x.define();
        for (int round = 2; round < 5; round++) {
            long[] member = {31, 2, 1, 1, 13, 1, 14, 19, 1, 14, 18, x.hash(D), 12, 0};
            long[] whole = {32, 3};
            for (int i = 0; i < 3; i++) {
                member[8] = (i + 1) % 3;
                whole = together(whole, member);
            }
            for (int place = 0; place < 3; place++) {
                due("place " + place + " in round " + round, row(33, row(whole), place), x.hash(order[place]));
            }
            // names do not count: they change with each round
            int first = order[0];
            x.alias(first, 25);
            x.alias(order[1], first);
            x.alias(order[2], order[1]);
            x.alias(25, order[2]);
            x.unname(25);
            order = new int[] {order[2], order[0], order[1]};
            due("all three", 3, updateFunction(D, adder(round)));
        }
    }

    private void placesOfWhatIsLeft() {
        for (int gone = 0; gone < 4; gone++) {
            begin("groups are what still need each other without those that have become others; without " + gone);
            defineFunction(D, adder(1));
            int[] order = {E, A, C, B};
            for (int i = 0; i < 4; i++) {
                x.stage(order[i], intToInt(), callAll(new int[] {order[(i + 1) % 4], order[(i + 2) % 4], order[(i + 3) % 4]}));
            }
            due("four", 4, x.define());
            List<Integer> left = new ArrayList<>();
            for (int i = 0; i < 4; i++) {
                if (i != gone) {
                    left.add(i);
                }
            }
            due("the others", 3, updateFunction(order[gone], adder(7)));
            long[] whole = {32, 3};
            for (int i : left) {
                whole = together(whole, new long[] {31, 2, 1, 1, 13, 1});
                for (int step = 1; step < 4; step++) {
                    int called = (i + step) % 4;
                    whole = together(whole, called == gone ? new long[] {14, 18, x.hash(order[gone])}
                        : new long[] {14, 19, left.indexOf(called)});
                }
                whole = together(whole, new long[] {14, 18, x.hash(D), 12, 0});
            }
            // of unlike rows the lower one is first; here all that differs is where the new one stands
            checkMembers(order, left, whole);
        }
    }

    private void checkMembers(int[] order, List<Integer> left, long[] whole) {
        long[] keys = new long[4];
        int length = (whole.length - 2) / 3;
        for (int i = 0; i < 3; i++) {
            long[] key = Arrays.copyOfRange(whole, 2 + i * length, 2 + (i + 1) * length);
            for (int at = 0; at < key.length; at++) {
                if (key[at] == 19) {
                    key[at + 1] = 0;
                }
            }
            keys[left.get(i)] = row(key);
        }
        List<Integer> places = new ArrayList<>(left);
        places.sort((one, other) -> Long.compare(keys[one], keys[other]));
        long[] ordered = {32, 3};
        for (int member : places) {
            int at = left.indexOf(member);
            long[] own = Arrays.copyOfRange(whole, 2 + at * length, 2 + (at + 1) * length);
            for (int i = 0; i < own.length; i++) {
                if (own[i] == 19) {
                    own[i + 1] = places.indexOf(left.get((int) own[i + 1]));
                }
            }
            ordered = together(ordered, own);
        }
        for (int member : left) {
            due("member " + member, row(33, row(ordered), places.indexOf(member)), x.hash(order[member]));
        }
        due("sound", true, x.isSound());
    }

    private void asGreatAsCanBe() {
        begin("as great as can be");
        int t = type();
        x.stage(A, t, op(ref(B), '+', num(1)));
        x.stage(B, t, op(ref(A), '+', ref(C)));
        x.stage(C, t, op(ref(B), '+', num(2)));
        x.stage(D, t, op(ref(C), '+', num(3)));
        due("four", 4, x.define());
        for (int name = A; name <= C; name++) {
            due("three in one group", 3, x.needed(name));
            due("needs itself", true, x.needs(name, name));
        }
        due("d needs them all", 3, x.needed(D));
        due("d is in no group", row(31, 1, 15, 0, 18, x.hash(C), 11, 3), x.hash(D));
        begin("two groups, of which one needs the other one");
        int u = type();
        x.stage(A, u, ref(B));
        x.stage(B, u, op(ref(A), '+', ref(C)));
        x.stage(C, u, ref(D));
        x.stage(D, u, op(ref(C), '+', num(1)));
        x.define();
        due("two and two", 4, x.needed(A));
        due("two", 2, x.needed(D));
        long keyC = row(31, 1, 19, 0);
        long keyD = row(31, 1, 15, 0, 19, 0, 11, 1);
        long both = keyC < keyD ? row(32, 2, 31, 1, 19, 1, 31, 1, 15, 0, 19, 0, 11, 1)
            : row(32, 2, 31, 1, 15, 0, 19, 1, 11, 1, 31, 1, 19, 0);
        due("c", row(33, both, keyC < keyD ? 0 : 1), x.hash(C));
        due("d", row(33, both, keyC < keyD ? 1 : 0), x.hash(D));
        long keyB = row(31, 1, 15, 0, 19, 0, 18, x.hash(C));
        long first = keyC < keyB ? row(32, 2, 31, 1, 19, 1, 31, 1, 15, 0, 19, 0, 18, x.hash(C))
            : row(32, 2, 31, 1, 15, 0, 19, 1, 18, x.hash(C), 31, 1, 19, 0);
        due("a", row(33, first, keyC < keyB ? 0 : 1), x.hash(A));
        due("b", row(33, first, keyC < keyB ? 1 : 0), x.hash(B));
    }

    private void overOthers() {
        begin("each needs each other one, over others or not");
        for (int i = 0; i < 8; i++) {
            x.stage(i, type(), ref((i + 1) % 8));
        }
        x.define();
        for (int i = 0; i < 8; i++) {
            for (int k = 0; k < 8; k++) {
                due(i + " needs " + k, true, x.needs(i, k));
            }
        }
        begin("a chain is no group");
        for (int i = 7; i >= 0; i--) {
            x.stage(i, type(), i == 0 ? num(1) : ref(i - 1));
        }
        due("eight", 8, x.define());
        for (int i = 0; i < 8; i++) {
            for (int k = 0; k < 8; k++) {
                due(i + " needs " + k, k < i, x.needs(i, k));
            }
            due("needed", i, x.needed(i));
        }
        due("the last one", row(31, 1, 18, x.hash(6)), x.hash(7));
    }

    // Defining and updating

    private void mustBeFree() {
        begin("they must be free in the branch");
        int t = type();
        int n = num(1);
        for (int name = 0; name < 8; name++) {
            x.stage(name, t, n);
        }
        x.define();
        for (int used = 0; used < 8; used++) {
            for (int name = 8; name < 15; name++) {
                x.stage(name, t, n);
            }
            x.stage(used, t, n);
            refused("not free is " + used, () -> x.define());
            x.unstage();
        }
        x.stageData(3, false, constructors(NO));
        refused("also for data", () -> x.define());
        x.goTo(x.branch());
        refused("in the other branch, too", () -> x.define());
        x.unname(3);
        due("free here", 1, x.define());
        due("data here", 'd', x.kindOf(3));
        x.goTo(0);
        due("a term there", 't', x.kindOf(3));
    }

    private void mustHaveOne() {
        begin("by updating each must have one, of the same kind");
        int t = type();
        int n = num(2);
        int plus = constructors(NO);
        defineInt(A, num(1));
        defineInt(B, num(1));
        defineData(C, NO);
        x.stage(A, t, n);
        x.stage(D, t, n);
        refused("the last one has none", () -> x.update());
        x.unstage();
        x.stage(D, t, n);
        x.stage(A, t, n);
        refused("the first one has none", () -> x.update());
        x.unstage();
        x.stage(A, t, n);
        x.stage(C, t, n);
        refused("a term for data", () -> x.update());
        x.stageData(C, false, plus);
        due("the same kind", 0, x.update());
        x.stageData(A, false, plus);
        refused("data for a term", () -> x.update());
        x.unstage();
        x.branch();
        x.unname(A);
        x.stage(A, t, n);
        refused("one in another branch", () -> x.update());
        x.goTo(1);
        due("there it has one", 0, x.update());
    }

    private void stagedLastCounts() {
        begin("if two had the same one, that of the name staged last counts for all else");
        int t = type();
        for (int last = 0; last < 3; last++) {
            defineInt(A, num(1));
            for (int name = B; name <= D; name++) {
                x.alias(A, name);
            }
            defineInt(E, op(ref(A), '*', num(5)));
            for (int i = 1; i <= 3; i++) {
                int name = (last + i) % 3;
                x.stage(name, t, num(10 + name));
            }
            due("e is carried along", 1, x.update());
            for (int name = A; name <= C; name++) {
                due("its own", intHash(10 + name), x.hash(name));
            }
            due("the last one", intHash(10 + last), x.hash(D));
            due("in others", row(31, 1, 15, 2, 18, intHash(10 + last), 11, 5), x.hash(E));
            due("two hashes", 2, x.patchSize(last));
            for (int name = A; name <= E; name++) {
                x.unname(name);
            }
        }
    }

    private void stagedLastIsAsBefore() {
        begin("if two had the same one, and the last one has it again");
        int t = type();
        defineInt(A, num(1));
        x.alias(A, B);
        x.alias(A, C);
        defineInt(D, op(ref(A), '*', num(5)));
        long old = x.hash(D);
        x.stage(A, t, num(2));
        x.stage(B, t, num(1));
        due("nothing is carried along", 0, x.update());
        due("nothing is kept", 0, x.patchSize(0));
        due("a has its own", intHash(2), x.hash(A));
        due("b has it again", intHash(1), x.hash(B));
        due("c stays", intHash(1), x.hash(C));
        due("d stays", old, x.hash(D));
        x.alias(B, A);
        x.stage(B, t, num(1));
        x.stage(A, t, num(2));
        due("the other way", 1, x.update());
        due("two are kept", 2, x.patchSize(1));
        due("b has it again", intHash(1), x.hash(B));
        due("c has that of a", intHash(2), x.hash(C));
        due("d", row(31, 1, 15, 2, 18, intHash(2), 11, 5), x.hash(D));
    }

    private void withoutNamesBetween() {
        begin("all definitions that can be reached from names of the branch");
        defineInt(A, num(1));
        for (int name = 1; name < 6; name++) {
            defineInt(name, op(ref(name - 1), '+', num(name)));
        }
        for (int name = 1; name < 5; name++) {
            x.unname(name);
        }
        x.stage(A, type(), num(2));
        due("those without a name, too", 5, x.update());
        long due = intHash(2);
        for (int name = 1; name < 6; name++) {
            due = row(31, 1, 15, 0, 18, due, 11, name);
        }
        due("the last one", due, x.hash(5));
        due("all are kept", 6, x.patchSize(0));
        due("old and new", 12, x.definitions());
    }

    private void onlyFromNamesOfTheBranch() {
        begin("those that cannot be reached from names of the branch stay");
        defineInt(A, num(1));
        defineInt(B, op(ref(A), '+', num(2)));
        x.commit();
        x.branch();
        x.unname(B);
        x.stage(A, type(), num(3));
        due("b has a name in the other branch", 0, x.update());
        due("one is kept", 1, x.patchSize(0));
        x.goTo(1);
        due("b stays there", row(31, 1, 15, 0, 18, intHash(1), 11, 2), x.hash(B));
        begin("what only an old definition needs stays, too");
        defineInt(A, num(1));
        defineInt(B, op(ref(A), '+', num(2)));
        defineInt(C, op(ref(B), '+', num(3)));
        x.unname(B);
        x.stage(A, type(), num(4));
        x.stage(C, type(), num(5));
        due("b cannot be reached any more", 0, x.update());
        due("two are kept", 2, x.patchSize(0));
        due("no new one but those", 5, x.definitions());
    }

    private void replacedOnce() {
        begin("each hash in it that has become another one is replaced, once");
        int t = type();
        for (int name = 0; name < 4; name++) {
            defineInt(name, num(name));
            x.alias(name, 20 + name);
        }
        defineInt(E, op(op(ref(0), '+', ref(1)), '+', op(ref(2), '+', ref(3))));
        for (int name = 0; name < 4; name++) {
            x.stage(name, t, num((name + 1) % 4));
        }
        due("e", 1, x.update());
        for (int name = 0; name < 4; name++) {
            due("given", intHash((name + 1) % 4), x.hash(name));
            due("what theirs became, once", intHash((name + 1) % 4), x.hash(20 + name));
        }
        due("each once", row(31, 1, 15, 0, 15, 0, 18, intHash(1), 18, intHash(2), 15, 0, 18, intHash(3), 18, intHash(0)),
            x.hash(E));
        due("five are kept", 5, x.patchSize(0));
    }

    private void replacedInItsType() {
        begin("in its type, too");
        int t = type();
        defineData(A, NO);
        defineData(B, t);
        x.stage(C, arrow(data(A), t), fn(data(A), num(1)));
        x.stage(D, arrow(data(B), arrow(data(A), t)), fn(data(B), ref(C)));
        x.define();
        x.stageData(A, false, constructors(NO, NO));
        due("both", 2, x.update());
        long a = x.hash(A);
        due("c", row(31, 2, 3, a, 1, 13, 3, a, 11, 1), x.hash(C));
        due("d", row(31, 2, 3, x.hash(B), 2, 3, a, 1, 13, 3, x.hash(B), 18, x.hash(C)), x.hash(D));
        x.writeType(D);
        due("written", "(b -> (a -> int))", line());
    }

    private void staysIfNothingIsReplaced() {
        begin("if nothing in it, or in its group, is replaced, it stays");
        int t = type();
        defineInt(A, num(1));
        defineInt(B, op(ref(A), '+', num(2)));
        defineInt(C, op(ref(B), '+', num(3)));
        long b = x.hash(B);
        long c = x.hash(C);
        x.stage(A, intToInt(), adder(1));
        due("b has not its type then", 0, x.update());
        due("one is to do", 1, x.todo());
        due("it", B, x.todoAt(0));
        due("b stays", b, x.hash(B));
        due("c stays", c, x.hash(C));
        due("no new one", 4, x.definitions());
        due("one is kept", 1, x.patchSize(0));
    }

    private void allOfItsGroup() {
        begin("it and all of its group are new definitions");
        int t = type();
        defineInt(D, num(1));
        x.stage(A, t, op(ref(B), '+', ref(D)));
        x.stage(B, t, ref(C));
        x.stage(C, t, ref(A));
        x.define();
        x.unname(C);
        x.stage(D, t, num(2));
        due("three, of which one needs d at first hand", 3, x.update());
        due("four are kept", 4, x.patchSize(0));
        due("a needs all", 4, x.needed(A));
        due("sound", true, x.isSound());
        begin("or they stay, and all their names in the branch are to do");
        int u = type();
        defineInt(D, num(1));
        x.stage(A, u, op(ref(B), '+', ref(D)));
        x.stage(B, u, ref(C));
        x.stage(C, u, ref(A));
        x.define();
        x.alias(C, 25);
        x.alias(C, 0);
        x.unname(C);
        x.goTo(x.branch());
        x.alias(B, 20);
        long b = x.hash(B);
        x.stage(D, intToInt(), adder(1));
        due("none", 0, x.update());
        due("names", 4, x.todo());
        int[] due = {A, B, 20, 25};
        for (int i = 0; i < 4; i++) {
            due("name " + i, due[i], x.todoAt(i));
        }
        due("b stays", b, x.hash(B));
        due("no new one", 5, x.definitions());
    }

    private void whatNeedsToDo() {
        begin("what needs one that is to do, and another one that is replaced");
        int t = type();
        defineInt(A, num(1));
        defineInt(B, op(ref(A), '+', num(2)));
        defineInt(C, num(3));
        defineInt(D, op(ref(B), '+', ref(C)));
        long b = x.hash(B);
        x.stage(A, intToInt(), adder(1));
        x.stage(C, t, num(4));
        due("d is carried along", 1, x.update());
        due("with b as it was", row(31, 1, 15, 0, 18, b, 18, intHash(4)), x.hash(D));
        due("b is to do", 1, x.todo());
        due("only b", B, x.todoAt(0));
    }

    private void givenAndCarried() {
        begin("staged ones only to what the definitions that they were given were carried along to, if they were");
        int t = type();
        defineInt(A, num(1));
        defineInt(B, op(ref(A), '+', num(2)));
        x.alias(A, C);
        x.stage(A, t, op(ref(B), '+', num(3)));
        long b = x.hash(B);
        due("b, and a itself", 2, x.update());
        long given = row(31, 1, 15, 0, 18, b, 11, 3);
        long carriedB = row(31, 1, 15, 0, 18, given, 11, 2);
        due("b", carriedB, x.hash(B));
        due("a", row(31, 1, 15, 0, 18, carriedB, 11, 3), x.hash(A));
        due("another name only once", given, x.hash(C));
        due("three are kept", 3, x.patchSize(0));
        begin("staged ones not to what their new definitions became as old ones of others");
        int u = type();
        defineInt(A, num(1));
        defineInt(B, num(2));
        x.stage(A, u, num(2));
        x.stage(B, u, num(3));
        x.update();
        due("a is not carried to three", intHash(2), x.hash(A));
        due("b", intHash(3), x.hash(B));
    }

    private void replacedByThoseThere() {
        begin("returns how many were carried along and replaced, also by ones that were there");
        int t = type();
        defineInt(A, num(1));
        defineInt(B, op(ref(A), '+', num(2)));
        defineInt(C, op(ref(B), '+', num(3)));
        x.stage(A, t, num(4));
        due("two new ones", 2, x.update());
        due("six", 6, x.definitions());
        x.stage(A, t, num(1));
        due("two old ones", 2, x.update());
        due("still six", 6, x.definitions());
        x.stage(C, t, num(5));
        due("none needs c", 0, x.update());
    }

    private void patchOfNothing() {
        begin("it is made also if there are none");
        defineInt(A, num(1));
        for (int i = 0; i < 3; i++) {
            x.stage(A, type(), num(1));
            due("none is carried along", 0, x.update());
            due("patches", i + 1, x.patches());
            due("nothing is kept", 0, x.patchSize(i));
        }
        due("it changes nothing", 0, x.apply(0));
    }

    private void namesToDo() {
        begin("as many names to do as can be by an update");
        defineInt(A, num(1));
        defineInt(B, op(ref(A), '+', num(2)));
        for (int name = 2; name < 26; name++) {
            x.alias(B, name);
        }
        int other = x.branch();
        x.stage(A, intToInt(), adder(1));
        due("none", 0, x.update());
        due("25", 25, x.todo());
        for (int i = 0; i < 25; i++) {
            due("name", i + 1, x.todoAt(i));
        }
        outside("25", () -> x.todoAt(25));
        begin("as many names to do as can be by applying a patch");
        defineInt(A, num(1));
        other = x.branch();
        x.stage(A, intToInt(), adder(1));
        x.update();
        x.goTo(other);
        defineInt(B, op(ref(A), '+', num(2)));
        for (int name = 0; name < 26; name++) {
            x.alias(B, name);
        }
        due("no name changes", 0, x.apply(0));
        due("26", 26, x.todo());
        for (int i = 0; i < 26; i++) {
            due("name", i, x.todoAt(i));
        }
        outside("26", () -> x.todoAt(26));
        outside("-1", () -> x.todoAt(-1));
        outside("the least", () -> x.todoAt(Integer.MIN_VALUE));
        outside("the greatest", () -> x.todoAt(Integer.MAX_VALUE));
    }

    private void lastToDo() {
        begin("names that were to do in the last update or application of a patch");
        int t = type();
        defineInt(A, num(1));
        defineInt(B, op(ref(A), '+', num(2)));
        x.stage(A, intToInt(), adder(1));
        x.update();
        due("one", 1, x.todo());
        x.unname(B);
        defineInt(C, num(1));
        x.goTo(x.branch());
        x.commit();
        x.collect();
        x.compose(0, 0);
        x.mergePatches(0, 0);
        x.merge(0);
        due("nothing else counts", 1, x.todo());
        due("it was b", B, x.todoAt(0));
        x.stage(A, t, num(3));
        x.stage(D, t, num(3));
        refused("an update that is refused", () -> x.update());
        missing("an application that is refused", () -> x.apply(9));
        due("still one", 1, x.todo());
        due("an application", 1, x.apply(0));
        due("none then", 0, x.todo());
    }

    private void allToDoOnce() {
        begin("names that were to do in the last one alone");
        defineInt(A, num(1));
        int other = x.branch();
        x.stage(A, intToInt(), adder(1));
        x.update();
        x.goTo(other);
        defineInt(B, op(ref(A), '+', num(2)));
        for (int name = 0; name < 26; name++) {
            x.alias(B, name);
        }
        x.apply(0);
        due("all", 26, x.todo());
        x.goTo(0);
        due("nothing is changed here", 0, x.apply(0));
        due("none", 0, x.todo());
        outside("not the first name", () -> x.todoAt(0));
        x.goTo(other);
        x.apply(0);
        due("all again", 26, x.todo());
        x.stage(A, type(), num(5));
        x.update();
        due("none after an update", 0, x.todo());
        outside("not the first name", () -> x.todoAt(0));
    }

    // Patches

    private void twentyPatches() {
        for (int way = 0; way < 3; way++) {
            begin("at most 20 patches have numbers from 0; the last one by " + way);
            int t = type();
            int[] ints = {num(0), num(1)};
            defineInt(A, num(0));
            for (int i = 0; i < 19; i++) {
                x.stage(A, t, ints[(i + 1) % 2]);
                x.update();
                due("patches", i + 1, x.patches());
                final int none = i + 1;
                missing("none yet", () -> x.patchSize(none));
            }
            x.stage(A, t, ints[0]);
            if (way == 0) {
                due("the last one", 0, x.update());
                x.stage(A, t, ints[1]);
            } else if (way == 1) {
                due("the last one", 19, x.compose(0, 1));
            } else {
                due("the last one", 0, x.mergePatches(0, 1));
            }
            due("twenty", 20, x.patches());
            due("the last one", way == 0 ? 1 : 2, x.patchSize(19));
            refused("update", () -> x.update());
            refused("compose", () -> x.compose(0, 0));
            refused("merge", () -> x.mergePatches(19, 19));
            missing("none has the number 20", () -> x.patchSize(20));
            due("they are applied", 1, x.apply(x.hash(A) == intHash(0) ? 0 : 1));
            due("one is staged", 1, x.unstage());
        }
    }

    private void sizesOfPatches() {
        begin("all hashes that have become others by it are kept with these");
        int t = type();
        for (int name = 0; name < 8; name++) {
            defineInt(name, num(name));
        }
        for (int size = 0; size <= 8; size++) {
            for (int name = 0; name < 8; name++) {
                x.stage(name, t, num(name < size ? 100 + name : name));
            }
            due("none is carried along", 0, x.update());
            due("size", size == 0 ? 0 : 1, x.patchSize(size));
        }
        begin("eight at once");
        int u = type();
        for (int name = 0; name < 8; name++) {
            defineInt(name, num(name));
        }
        for (int name = 0; name < 8; name++) {
            x.stage(name, u, num(100 + name));
        }
        x.update();
        due("eight", 8, x.patchSize(0));
    }

    private void appliedToAllNames() {
        begin("returns how many names belong to another definition then");
        defineInt(A, num(1));
        x.stage(A, type(), num(2));
        x.update();
        x.unname(A);
        due("without names", 0, x.apply(0));
        defineInt(A, num(1));
        for (int name = 1; name < 26; name++) {
            x.alias(A, name);
        }
        due("26", 26, x.apply(0));
        for (int name = 0; name < 26; name++) {
            due("name " + name, intHash(2), x.hash(name));
        }
        due("none then", 0, x.apply(0));
        x.unname(25);
        defineInt(25, num(1));
        due("the last one", 1, x.apply(0));
    }

    /** Makes a patch in which one becomes another one, and gives it back its name. */
    private int keep(int from, int to) {
        defineInt(25, num(from));
        x.stage(25, type(), num(to));
        x.update();
        x.unname(25);
        return x.patches() - 1;
    }

    private int mergeAll(int first, int last) {
        int all = first;
        for (int patch = first + 1; patch <= last; patch++) {
            x.mergePatches(all, patch);
            all = x.patches() - 1;
        }
        return all;
    }

    private void becomes(int all, int... due) {
        for (int name = 0; name < due.length; name++) {
            defineInt(name, num(name));
        }
        int changed = 0;
        for (int name = 0; name < due.length; name++) {
            changed += due[name] == name ? 0 : 1;
        }
        due("names", changed, x.apply(all));
        for (int name = 0; name < due.length; name++) {
            due("of " + name, intHash(due[name]), x.hash(name));
        }
    }

    private void rings() {
        begin("as long as there is something: a chain");
        keep(0, 1);
        keep(1, 2);
        keep(2, 3);
        becomes(mergeAll(0, 2), 3, 3, 3, 3);
        begin("in a ring, it becomes the last one ahead of what would come again: two");
        keep(0, 1);
        keep(1, 0);
        becomes(mergeAll(0, 1), 1, 0, 2);
        begin("a ring of three");
        keep(0, 1);
        keep(1, 2);
        keep(2, 0);
        becomes(mergeAll(0, 2), 2, 0, 1, 3);
        begin("into a ring of two");
        keep(0, 1);
        keep(1, 2);
        keep(2, 3);
        keep(3, 2);
        becomes(mergeAll(0, 3), 3, 3, 3, 2);
        begin("into one that becomes itself");
        keep(1, 2);
        keep(2, 1);
        due("one becomes itself, two becomes one", 2, x.compose(0, 1));
        keep(0, 1);
        due("no conflict", 0, x.mergePatches(2, 3));
        due("three", 3, x.patchSize(4));
        becomes(4, 1, 1, 1, 3);
        begin("one that becomes itself alone");
        keep(0, 1);
        keep(1, 0);
        x.compose(0, 1);
        x.compose(2, 2);
        due("both are kept", 2, x.patchSize(3));
        becomes(3, 0, 0, 2);
    }

    /** The order in which a patch came to keep its hashes does not count. */
    private void ringsInAllOrders() {
        int[][] tos = {{1, 2, 3, 4}, {1, 2, 3, 0}, {1, 2, 3, 1}, {1, 2, 3, 2}, {1, 0, 3, 2}, {2, 2, 3, 2}, {3, 0, 4, 1}};
        int[][] dues = {{4, 4, 4, 4}, {3, 0, 1, 2}, {3, 3, 1, 2}, {3, 3, 3, 2}, {1, 0, 3, 2}, {3, 3, 3, 2}, {1, 3, 4, 0}};
        for (int way = 0; way < tos.length; way++) {
            for (int order = 0; order < 24; order++) {
                begin("in all orders: way " + way + ", order " + order);
                List<Integer> left = new ArrayList<>(List.of(0, 1, 2, 3));
                int rest = order;
                for (int i = 4; i >= 1; i--) {
                    int from = left.remove(rest % i);
                    rest /= i;
                    keep(from, tos[way][from]);
                }
                becomes(mergeAll(0, 3), dues[way]);
            }
        }
    }

    private void appliedWithoutNames() {
        begin("this is carried along also from definitions that have no names");
        defineInt(A, num(1));
        int here = x.branch();
        x.stage(A, type(), num(2));
        x.update();
        x.goTo(here);
        defineInt(B, op(ref(A), '+', num(3)));
        defineInt(C, op(ref(B), '+', num(4)));
        x.unname(A);
        x.unname(B);
        due("c alone has a name", 1, x.apply(0));
        due("c", row(31, 1, 15, 0, 18, row(31, 1, 15, 0, 18, intHash(2), 11, 3), 11, 4), x.hash(C));
        due("none is to do", 0, x.todo());
        due("nothing more", 0, x.apply(0));
        begin("but only from what can be reached from names");
        defineInt(A, num(1));
        here = x.branch();
        x.stage(A, type(), num(2));
        x.update();
        x.goTo(here);
        defineInt(B, op(ref(A), '+', num(3)));
        x.unname(A);
        x.unname(B);
        int before = x.definitions();
        due("none", 0, x.apply(0));
        due("no new one", before, x.definitions());
    }

    private void appliedMakesNoPatch() {
        begin("nothing is made of this but to do's");
        defineInt(A, num(1));
        defineInt(B, op(ref(A), '+', num(3)));
        x.branch();
        x.stage(A, intToInt(), adder(1));
        x.update();
        due("one to do", 1, x.todo());
        x.goTo(1);
        x.stage(C, type(), num(5));
        due("a", 1, x.apply(0));
        due("one to do", 1, x.todo());
        due("b", B, x.todoAt(0));
        due("no patch", 1, x.patches());
        due("one is kept", 1, x.patchSize(0));
        due("what is staged stays", 1, x.unstage());
        due("no commit", 0, x.commits());
    }

    private void composedOfNothing() {
        begin("patches of nothing are composed and merged");
        int empty = keep(1, 1);
        int one = keep(1, 2);
        due("nothing", 0, x.patchSize(empty));
        due("of nothing", 2, x.compose(empty, empty));
        due("nothing", 0, x.patchSize(2));
        due("nothing and one", 3, x.compose(empty, one));
        due("one", 1, x.patchSize(3));
        due("one and nothing", 4, x.compose(one, empty));
        due("one", 1, x.patchSize(4));
        due("no conflict", 0, x.mergePatches(empty, empty));
        due("nothing", 0, x.patchSize(5));
        due("no conflict", 0, x.mergePatches(empty, one));
        due("one", 1, x.patchSize(6));
        due("no conflict", 0, x.mergePatches(one, empty));
        due("one", 1, x.patchSize(7));
        defineInt(A, num(1));
        due("one becomes two", 1, x.apply(3));
        due("and stays", 0, x.apply(4));
    }

    private void composedInTurn() {
        begin("each hash that the first one keeps becomes what it becomes by the first and then by the second one");
        keep(0, 1);
        keep(1, 2);
        int first = mergeAll(0, 1);
        keep(2, 3);
        keep(3, 4);
        keep(5, 0);
        int second = mergeAll(3, 5);
        due("two are kept by the first one", 2, x.patchSize(first));
        due("three by the second one", 3, x.patchSize(second));
        int composed = x.compose(first, second);
        due("five", 5, x.patchSize(composed));
        // five becomes nought by the second one, and that one by the patch that is made
        becomes(composed, 4, 4, 4, 4, 4, 4);
        begin("each other one that the second one keeps what it becomes by this");
        keep(0, 1);
        keep(2, 0);
        due("composed", 2, x.compose(0, 1));
        due("both", 2, x.patchSize(2));
        keep(2, 0);
        due("two becomes nought, as by the second one", 0, x.mergePatches(2, 3));
        keep(2, 1);
        due("not one", 1, x.mergePatches(2, 5));
    }

    /** What becomes itself has become no other one: changes are carried along to it. */
    private void becomesItself() {
        begin("each hash that the first one keeps, itself perhaps");
        int t = type();
        defineInt(B, num(1));
        defineInt(A, op(ref(B), '+', num(2)));
        int other = x.branch();
        long old = x.hash(A);
        x.stage(A, t, num(3));
        x.update();
        x.stage(A, t, op(ref(B), '+', num(2)));
        x.update();
        due("a is as it was", old, x.hash(A));
        due("composed", 2, x.compose(0, 1));
        due("a, and what it was", 2, x.patchSize(2));
        due("a becomes itself", 0, x.apply(2));
        x.stage(B, t, num(7));
        due("a is carried along", 1, x.update());
        long fresh = x.hash(A);
        due("two are kept", 2, x.patchSize(3));
        x.goTo(other);
        x.unname(A);
        x.stage(B, t, num(7));
        x.update();
        due("b alone", 1, x.patchSize(4));
        due("no conflict", 0, x.mergePatches(2, 4));
        x.goTo(x.branch());
        x.unname(B);
        defineInt(B, num(1));
        defineInt(A, op(ref(B), '+', num(2)));
        due("a as it was", old, x.hash(A));
        due("both", 2, x.apply(5));
        due("b", intHash(7), x.hash(B));
        due("a is carried along", fresh, x.hash(A));
        due("none is to do", 0, x.todo());
    }

    /** Products of unlike ints, told once. */
    private int[] products(int count) {
        int[] ints = new int[18];
        int[] all = new int[count];
        for (int i = 0; i < ints.length; i++) {
            ints[i] = num(i * 1000);
        }
        for (int i = 0; i < count; i++) {
            all[i] = op(ints[i / ints.length], '*', ints[i % ints.length]);
        }
        return all;
    }

    private void composedAmongMany() {
        begin("each hash once, also after composing");
        int t = type();
        int[] terms = products(270);
        for (int i = 0; i < terms.length; i++) {
            x.stage(A, t, terms[i]);
            due("new", 1, x.define());
            x.unname(A);
        }
        x.stage(A, t, terms[0]);
        x.define();
        x.stage(A, t, terms[1]);
        x.update();
        x.stage(A, t, terms[2]);
        x.update();
        for (int round = 0; round < 3; round++) {
            if (round == 1) {
                due("composed", 2, x.compose(0, 1));
            } else if (round == 2) {
                due("merged", 0, x.mergePatches(0, 1));
            }
            for (int i = 0; i < terms.length; i++) {
                x.stage(B, t, terms[i]);
                due("there is " + i, 0, x.define());
                due("it", row(31, 1, 15, 2, 11, i / 18 * 1000, 11, i % 18 * 1000), x.hash(B));
                x.unname(B);
            }
        }
        due("no more", 270, x.definitions());
        due("all but three", 267, x.collect());
        for (int i = 0; i < terms.length; i++) {
            x.stage(B, t, terms[i]);
            due("there is " + i, i < 3 ? 0 : 1, x.define());
            x.unname(B);
        }
    }

    private void mergedConflicts() {
        begin("if both keep unlike ones for a hash, it is a conflict, and that of the first one is kept");
        for (int count = 0; count <= 3; count++) {
            begin("merged with conflicts: " + count);
            int t = type();
            for (int name = 0; name < 4; name++) {
                defineInt(name, num(name));
            }
            x.branch();
            for (int name = 0; name < 4; name++) {
                x.stage(name, t, num(10 + name));
            }
            x.update();
            x.goTo(1);
            for (int name = 0; name < 4; name++) {
                x.stage(name, t, num(name < count ? 20 + name : 10 + name));
            }
            x.update();
            due("conflicts", count, x.mergePatches(0, 1));
            due("conflicts", count, x.mergePatches(1, 0));
            due("four", 4, x.patchSize(2));
            due("four", 4, x.patchSize(3));
            for (int patch = 2; patch < 4; patch++) {
                for (int name = 0; name < 4; name++) {
                    x.unname(name);
                    defineInt(name, num(name));
                }
                due("all", 4, x.apply(patch));
                for (int name = 0; name < 4; name++) {
                    due("of the first one", intHash((patch == 3 && name < count ? 20 : 10) + name), x.hash(name));
                }
            }
        }
    }
}
