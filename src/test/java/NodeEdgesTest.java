import java.util.ArrayList;
import java.util.HashMap;
import java.util.List;
import java.util.Map;

/**
 * The sentences of the document under Nodes, Definitions, Staging and Checking that name an edge, each with a
 * test of its own that looks at both of its sides.
 */
public final class NodeEdgesTest extends Check {
    /** For each kind what its operands must be; see fitting(). */
    private static final String[] KINDS = {"j---", ">TT-", "dn--", "i---", "vv--", "fTt-", "att-", "otto", "?ttt", "ltt-",
        "rn--", "mnku", "cntB", "btX-", "+UY-"};

    private static final int[] NUMBERS = {Integer.MIN_VALUE, -26, -3, -2, -1, 0, 1, 2, 3, 4, 5, 24, 25, 26, 27, 29, 30, 31, 32,
        299, 300, 65536, Integer.MAX_VALUE};

    /** The letters of the sorts of all nodes that are told in operandsFit(). */
    private final StringBuilder sorts = new StringBuilder();
    /** Terms and types by their weights, for one commons. */
    private final Map<Integer, Integer> termsByWeight = new HashMap<>();
    private final Map<Integer, Integer> typesByWeight = new HashMap<>();
    private HashedCommons weighed;

    public static void main(String[] args) {
        NodeEdgesTest test = new NodeEdgesTest();
        test.lastCall();
        test.mostNodes();
        test.lastNodesServe();
        test.refusedNodesHaveNoNumber();
        test.operandsFit();
        test.operandsMustBeThere();
        test.depths();
        test.depthOfNext();
        test.weights();
        test.weightAsOften();
        test.unlikeLimits();
        test.mostConstructors();
        test.constructorsWithAndWithout();
        test.numbersOfUnique();
        test.eachHashOnce();
        test.allNames();
        test.orderOfStaging();
        test.mostStaged();
        test.stagedAgainAsAnother();
        test.faultChangesNothing();
        test.dataFirst();
        test.dataItself();
        test.dataAhead();
        test.termsInTheirOrder();
        test.neededKinds();
        test.checkedInTheirOrder();
        test.boundVariables();
        test.deepestVariable();
        test.constructorThatIsThere();
        test.argumentOfConstructor();
        test.asManyBranches();
        test.nodeNoughtIsOneOfThem();
        test.mostMeanings();
        test.branchesOfOneType();
        test.sidesOfOperators();
        test.sameData();
        end();
    }

    // Nodes

    private void lastCall() {
        begin("an object is used for at most 512 calls");
        int plus = x.node('+', NO, NO, 0);
        for (int i = 1; i <= 509; i++) {
            due("one", 1, x.stageData(0, true, plus));
        }
        x.define();
        due("the 512th call", row(30, 509, 1, 0), x.hash(0));
        begin("an object is used for at most 512 calls, with as many tests as they leave");
        int t = type();
        for (int i = 0; i < 102; i++) {
            x.stage(0, t, num(i));
            x.define();
            due("outcome", i == 0 ? 'n' : 'p', x.test(0));
            x.unname(0);
        }
        due("the 512th call", 102, x.tests());
    }

    private void mostNodes() {
        begin("at most 300 nodes have numbers from 0, in the order in which they are told");
        for (int i = 0; i < 300; i++) {
            due("node", i, i == 297 ? x.node('b', 0, NO, 0) : i == 298 ? type() : num(i));
            if (i == 150) {
                missing("not told yet", () -> x.stage(0, 298, 0));
                illegal("not told yet", () -> x.node('a', 0, 151, 0));
            }
        }
        for (String kind : KINDS) {
            int[] all = {tellOperand(kind, 1), tellOperand(kind, 2), tellOperand(kind, 3)};
            refused("one more, " + kind, () -> x.node(kind.charAt(0), all[0], all[1], all[2]));
        }
        missing("none has the number 300", () -> x.stage(0, 298, 300));
        due("the last ones are there", 1, x.stage(0, 298, 299));
        x.define();
        due("the last one", row(31, 1, 11, 299), x.hash(0));
    }

    /** An operand that fits in mostNodes(), where all but two nodes are ints. */
    private static int tellOperand(String kind, int at) {
        switch (kind.charAt(at)) {
            case 'B':
                return 297;
            case 'T':
                return 298;
            case 'X':
            case 'Y':
            case 'U':
                return NO;
            default:
                return 0;
        }
    }

    private void lastNodesServe() {
        for (int filled : new int[] {0, 100, 240, 256, 274}) {
            begin("at most 300 nodes have numbers from 0; all others behind " + filled);
            for (int i = 0; i < filled; i++) {
                num(-i);
            }
            int t = type();
            int d = data(A);
            int plus = x.node('+', t, x.node('+', NO, NO, 0), 0);
            int toInt = arrow(d, t);
            int function = fn(d, let(num(5), x.node('c', A, var(1), x.node('b', app(fn(t, op(var(0), '*', var(1))), var(0)),
                x.node('b', choice(num(0), num(1), var(0)), NO, 0), 0))));
            x.stageData(A, false, plus);
            x.stage(B, toInt, function);
            x.stage(C, t, app(ref(B), make(A, 0, num(6))));
            due("three", 3, x.define());
            due("c is 6 * 6", "36", value(C));
            due("data", row(30, 0, 2, 1, 1, 0), x.hash(A));
            due("a function", "(x0: a => (x1 = 5; (x0 | c0 x2 => (x3: int => (x3 * x2))(x2) | c1 => (0 ? 1 : x1))))", written(B));
            due("c", row(31, 1, 14, 18, x.hash(B), 20, x.hash(A), 0, 11, 6), x.hash(C));
            if (filled == 274) {
                refused("these were the last ones", () -> type());
            } else {
                due("the next one", filled + 26, type());
            }
        }
    }

    private void refusedNodesHaveNoNumber() {
        begin("nodes that are refused have no number");
        int deep = num(0);
        for (int depth = 2; depth <= 20; depth++) {
            deep = make(A, 0, deep);
        }
        due("told", 19, deep);
        final int deepest = deep;
        refused("too deep", () -> make(A, 0, deepest));
        illegal("no kind", () -> x.node('x', 0, 0, 0));
        illegal("no type", () -> x.node('>', 0, 0, 0));
        due("the next one", 20, num(1));
    }

    /** Whether an operand fits; a node is told by the letter of its sort, ' ' for none. */
    private static boolean fitting(char role, int operand, char sort) {
        switch (role) {
            case 'T':
            case 't':
            case 'B':
                return sort == role;
            case 'U':
                return sort == 'T' || operand == -1;
            case 'u':
                return sort == 't' || operand == -1;
            case 'X':
                return sort == 'B' || operand == -1;
            case 'Y':
                return sort == 'C' || operand == -1;
            case 'n':
                return operand >= 0 && operand <= 25;
            case 'v':
                return operand >= 0 && operand <= 30;
            case 'k':
                return operand >= 0 && operand <= 3;
            case 'o':
                return operand >= 0 && operand <= 4;
            default:
                return true;
        }
    }

    private static char sortOf(char kind) {
        return "j>d".indexOf(kind) >= 0 ? 'T' : kind == 'b' ? 'B' : kind == '+' ? 'C' : 't';
    }

    /** A node of each sort, and others, so that names and numbers are nodes as well. */
    private void tellOfEachSort() {
        sorts.setLength(0);
        tell('j', 0, 0, 0);
        tell('i', 5, 0, 0);
        tell('b', 1, NO, 0);
        tell('+', 0, NO, 0);
        for (String kind : KINDS) {
            tell(kind.charAt(0), fittingOne(kind.charAt(1)), fittingOne(kind.charAt(2)), fittingOne(kind.charAt(3)));
        }
        tell('b', 1, 2, 0);
        tell('+', NO, 3, 0);
    }

    private void tell(char kind, int a, int b, int c) {
        due("node", sorts.length(), x.node(kind, a, b, c));
        sorts.append(sortOf(kind));
    }

    /** An operand that fits its role, other than that which is looked at. */
    private static int fittingOne(char role) {
        switch (role) {
            case 't':
                return 1;
            case 'B':
                return 2;
            case 'u':
            case 'U':
            case 'X':
            case 'Y':
                return NO;
            default:
                return 0;
        }
    }

    private void operandsFit() {
        for (String kind : KINDS) {
            for (int at = 1; at <= 3; at++) {
                begin("an operand is a node of a sort, a name from 0 to 25, or a number; kind " + kind + ", operand " + at);
                tellOfEachSort();
                for (int operand : operands()) {
                    int[] all = {fittingOne(kind.charAt(1)), fittingOne(kind.charAt(2)), fittingOne(kind.charAt(3))};
                    all[at - 1] = operand;
                    char sort = operand >= 0 && operand < sorts.length() ? sorts.charAt(operand) : ' ';
                    if (fitting(kind.charAt(at), operand, sort)) {
                        tell(kind.charAt(0), all[0], all[1], all[2]);
                    } else {
                        illegal("with " + operand, () -> x.node(kind.charAt(0), all[0], all[1], all[2]));
                    }
                }
            }
        }
    }

    private List<Integer> operands() {
        List<Integer> all = new ArrayList<>();
        for (int i = 0; i < sorts.length(); i++) {
            all.add(i);
        }
        for (int number : NUMBERS) {
            if (!all.contains(number)) {
                all.add(number);
            }
        }
        return all;
    }

    private void operandsMustBeThere() {
        begin("with no node there, no node can be an operand");
        for (String kind : KINDS) {
            for (int at = 1; at <= 3; at++) {
                if ("TtB".indexOf(kind.charAt(at)) >= 0) {
                    illegal(kind, () -> x.node(kind.charAt(0), 0, 0, 0));
                }
            }
        }
        illegal("next", () -> x.node('+', NO, 0, 0));
        illegal("argument", () -> x.node('+', 0, NO, 0));
        illegal("of a constructor", () -> x.node('m', 0, 0, 0));
        due("none is needed", 0, x.node('+', NO, NO, 0));
        illegal("not itself", () -> x.node('+', NO, 1, 0));
    }

    private int deepTerm(int depth) {
        int term = num(1);
        for (int i = 2; i <= depth; i++) {
            term = make(A, 0, term);
        }
        return term;
    }

    private int deepType(int depth) {
        int type = type();
        int other = type;
        for (int i = 2; i <= depth; i++) {
            type = arrow(type, other);
        }
        return type;
    }

    private int deep(char role, int depth) {
        switch (role) {
            case 'T':
            case 'U':
                return deepType(depth);
            case 't':
            case 'u':
                return deepTerm(depth);
            default:
                return x.node('b', deepTerm(depth - 1), NO, 0);
        }
    }

    private int shallow(char role) {
        switch (role) {
            case 'T':
                return type();
            case 't':
                return num(1);
            case 'B':
                return x.node('b', num(1), NO, 0);
            case 'u':
            case 'U':
            case 'X':
            case 'Y':
                return NO;
            default:
                return 0;
        }
    }

    /** Goes one deeper with a node of a kind. */
    private int deeper(char kind, int node) {
        switch (kind) {
            case '>':
                return arrow(node, node);
            case 'b':
                return x.node('c', A, num(1), node);
            case '+':
                return x.node('+', NO, node, 0);
            default:
                return make(A, 0, node);
        }
    }

    private void depths() {
        for (String kind : KINDS) {
            for (int at = 1; at <= 3; at++) {
                char role = kind.charAt(at);
                if ("TtBuU".indexOf(role) < 0) {
                    continue;
                }
                begin("1 more than the greatest depth of its operands, at most 20; kind " + kind + ", operand " + at);
                int[] all = {shallow(kind.charAt(1)), shallow(kind.charAt(2)), shallow(kind.charAt(3))};
                char letter = kind.charAt(0);
                all[at - 1] = deep(role, 20);
                refused("over an operand of 20", () -> x.node(letter, all[0], all[1], all[2]));
                all[at - 1] = deep(role, 19);
                int made = x.node(letter, all[0], all[1], all[2]);
                if (letter != '+') {
                    refused("it has 20", () -> deeper(letter, made));
                    all[at - 1] = deep(role, 18);
                    int less = x.node(letter, all[0], all[1], all[2]);
                    due("it has 19", less + (letter == 'b' ? 2 : 1), deeper(letter, less));
                }
            }
        }
    }

    private void depthOfNext() {
        begin("for one that is next its own depth counts as it is; branches");
        int leaf = num(1);
        int deepest = x.node('b', deepTerm(19), NO, 0);
        int over = x.node('b', leaf, deepest, 0);
        due("20 next", deepest + 1, over);
        refused("and that is 20", () -> x.node('c', A, leaf, over));
        int less = x.node('b', leaf, x.node('b', deepTerm(18), NO, 0), 0);
        int again = x.node('b', leaf, less, 0);
        due("19 next, in turn", again + 1, x.node('c', A, leaf, again));
        int behind = x.node('b', deepTerm(19), less, 0);
        refused("a deeper one ahead of it", () -> x.node('c', A, leaf, behind));
        begin("for one that is next its own depth counts as it is; constructors");
        int plus = x.node('+', deepType(19), NO, 0);
        due("20 next", plus + 1, x.node('+', NO, plus, 0));
        due("20 next, in turn", plus + 2, x.node('+', NO, plus + 1, 0));
        int type = deepType(20);
        refused("an argument of 20 ahead of it", () -> x.node('+', type, plus, 0));
        begin("a chain of 200 that are next is 1 deep");
        int last = NO;
        for (int i = 0; i < 200; i++) {
            last = x.node('+', NO, last, 0);
        }
        final int heaviest = last;
        refused("201 are too heavy", () -> x.node('+', NO, heaviest, 0));
    }

    private void weighAnew() {
        if (weighed != x) {
            termsByWeight.clear();
            typesByWeight.clear();
            weighed = x;
        }
    }

    /** A term of a weight that is not deep. */
    private int heavyTerm(int weight) {
        weighAnew();
        Integer there = termsByWeight.get(weight);
        if (there != null) {
            return there;
        }
        int half = (weight - 1) / 2;
        int term = weight == 1 ? num(1) : weight == 2 ? make(A, 0, heavyTerm(1))
            : op(heavyTerm(half), '+', heavyTerm(weight - 1 - half));
        termsByWeight.put(weight, term);
        return term;
    }

    /** Types have weights that are odd. */
    private int heavyType(int weight) {
        weighAnew();
        Integer there = typesByWeight.get(weight);
        if (there != null) {
            return there;
        }
        int half = (weight - 1) / 2;
        half -= 1 - half % 2;
        int type = weight == 1 ? type() : arrow(heavyType(half), heavyType(weight - 1 - half));
        typesByWeight.put(weight, type);
        return type;
    }

    private int heavyBranch(int weight) {
        return x.node('b', heavyTerm(weight - 1), NO, 0);
    }

    private int heavyConstructor(int weight) {
        boolean isOdd = weight % 2 != 0;
        int even = x.node('+', heavyType(weight - (isOdd ? 2 : 1)), NO, 0);
        return isOdd ? x.node('+', NO, even, 0) : even;
    }

    private int heavy(char role, int weight) {
        switch (role) {
            case 'T':
            case 'U':
                return heavyType(weight);
            case 't':
            case 'u':
                return heavyTerm(weight);
            case 'Y':
                return heavyConstructor(weight);
            default:
                return heavyBranch(weight);
        }
    }

    private static int weightOf(char role) {
        return role == 'B' ? 2 : role == 'T' || role == 't' ? 1 : 0;
    }

    private void weights() {
        for (String kind : KINDS) {
            for (int at = 1; at <= 3; at++) {
                char role = kind.charAt(at);
                if ("TtBuUXY".indexOf(role) < 0) {
                    continue;
                }
                begin("1 plus the weights of all operands, at most 200; kind " + kind + ", operand " + at);
                char letter = kind.charAt(0);
                int others = 1;
                int[] all = new int[3];
                for (int i = 1; i <= 3; i++) {
                    others += i == at ? 0 : weightOf(kind.charAt(i));
                    all[i - 1] = shallow(kind.charAt(i));
                }
                if (role == 'U') {
                    all[1] = x.node('+', NO, NO, 0);
                    others++;
                }
                // types have odd weights
                int most = role == 'T' || role == 'U' ? 197 : 200 - others;
                all[at - 1] = heavy(role, most);
                int made = x.node(letter, all[0], all[1], all[2]);
                due("200 at most", made + 1, num(0));
                all[at - 1] = heavy(role, role == 'T' || role == 'U' ? 199 : most + 1);
                refused("201", () -> x.node(letter, all[0], all[1], all[2]));
            }
        }
    }

    private void weightAsOften() {
        begin("each as often as it is one");
        int w66 = heavyTerm(66);
        int w199 = choice(w66, w66, w66);
        int w200 = make(A, 0, w199);
        refused("201", () -> make(A, 0, w200));
        int w67 = heavyTerm(67);
        refused("202", () -> choice(w67, w67, w67));
        due("200", w67 + 1, choice(w66, w67, w66));
        int w99 = heavyTerm(99);
        int twice = op(w99, '+', w99);
        due("199 and 1", twice + 1, make(A, 0, twice));
        int w100 = heavyTerm(100);
        refused("201", () -> op(w100, '+', w100));
        due("200", w100 + 1, op(w100, '+', w99));
        int type = heavyType(99);
        due("199", type + 1, arrow(type, type));
        int more = heavyType(101);
        refused("203", () -> arrow(more, more));
        refused("201", () -> arrow(more, type));
    }

    private void unlikeLimits() {
        begin("deep, but not heavy, and heavy, but not deep");
        int deep = deepTerm(20);
        due("20 deep with a weight of 20", 20, deep + 1);
        int flat = NO;
        for (int i = 0; i < 99; i++) {
            flat = x.node('b', 0, flat, 0);
        }
        int of = x.node('c', A, 0, flat);
        due("3 deep with a weight of 200", of + 1, num(1));
        refused("201", () -> make(A, 0, of));
        refused("21", () -> make(A, 0, deep));
        int chain = flat;
        refused("one branch more", () -> x.node('c', A, 0, x.node('b', 0, chain, 0)));
    }

    // Definitions

    private void mostConstructors() {
        begin("data has at most 4 constructors");
        int[] chain = new int[201];
        chain[0] = NO;
        int count = 0;
        for (int i = 1; i <= 200; i++) {
            chain[i] = x.node('+', NO, chain[i - 1], 0);
        }
        for (int n = 1; n <= 4; n++) {
            due("staged", 1, x.stageData(n, false, chain[n]));
            due(n + " constructors", '-', x.fault());
            count += x.define();
        }
        due("four data", 4, count);
        due("four constructors", row(30, 0, 4, 0, 0, 0, 0), x.hash(4));
        for (int n : new int[] {5, 6, 199, 200}) {
            due("staged", 1, x.stageData(5, n % 2 == 0, chain[n]));
            due(n + " constructors", 'k', x.fault());
            due("its name", 5, x.faultName());
            unsupported("define", () -> x.define());
        }
    }

    private void constructorsWithAndWithout() {
        begin("each with an argument of a type or without");
        int t = type();
        for (int with = 0; with < 16; with++) {
            int next = NO;
            long[] due = {30, 0, 4};
            for (int i = 3; i >= 0; i--) {
                next = x.node('+', (with >> i & 1) != 0 ? t : NO, next, 0);
            }
            for (int i = 0; i < 4; i++) {
                boolean has = (with >> i & 1) != 0;
                due = java.util.Arrays.copyOf(due, due.length + (has ? 2 : 1));
                due[due.length - (has ? 2 : 1)] = has ? 1 : 0;
                due[due.length - 1] = has ? 1 : 0;
            }
            x.stageData(with, false, next);
            x.define();
            due("with " + with, row(due), x.hash(with));
        }
        due("all are unlike", 16, x.definitions());
    }

    private void numbersOfUnique() {
        begin("a number of its own, from 1 on for each that is staged so, or it is not");
        int plus = constructors(NO);
        int term = num(1);
        x.stageData(A, false, plus);
        x.define();
        due("not unique", row(30, 0, 1, 0), x.hash(A));
        x.stageData(B, true, plus);
        x.define();
        due("the first one", row(30, 1, 1, 0), x.hash(B));
        x.stageData(C, true, plus);
        due("staged again", 1, x.stageData(C, true, plus));
        x.define();
        due("also if it is staged again", row(30, 3, 1, 0), x.hash(C));
        x.stageData(D, true, plus);
        x.unstage();
        x.stageData(D, true, plus);
        x.define();
        due("also if it is unstaged", row(30, 5, 1, 0), x.hash(D));
        x.stageData(E, true, plus);
        x.stage(E, type(), term);
        x.stageData(F, true, plus);
        x.define();
        due("also if a term takes its place", row(30, 7, 1, 0), x.hash(F));
        x.stageData(10, true, plus);
        x.stageData(10, false, plus);
        x.define();
        due("as it is staged last", x.hash(A), x.hash(10));
        illegal("refused", () -> x.stageData(26, true, plus));
        missing("refused", () -> x.stageData(11, true, 99));
        unsupported("refused", () -> x.stageData(11, true, term));
        for (int name = 12; name < 20; name++) {
            x.stageData(name, name % 2 == 0, plus);
        }
        refused("refused", () -> x.stageData(11, true, plus));
        x.define();
        due("9 to 12 were numbered", row(30, 12, 1, 0), x.hash(18));
        due("the first of them", row(30, 9, 1, 0), x.hash(12));
        x.stageData(20, true, constructors(NO, NO, NO, NO, NO));
        unsupported("a fault", () -> x.define());
        x.stageData(20, true, plus);
        x.define();
        due("13 had a fault", row(30, 14, 1, 0), x.hash(20));
        x.goTo(x.branch());
        x.stageData(21, true, plus);
        x.define();
        due("in another branch the numbers go on", row(30, 15, 1, 0), x.hash(21));
    }

    private void eachHashOnce() {
        begin("all definitions that were made are in the codebase, each hash once");
        int t = type();
        int n = num(4);
        for (int name = 0; name < 8; name++) {
            x.stage(name, t, n);
        }
        due("one of eight", 1, x.define());
        due("one", 1, x.definitions());
        for (int name = 0; name < 8; name++) {
            x.unname(name);
        }
        due("also without a name", 1, x.definitions());
        x.stage(A, t, n);
        due("none is new", 0, x.define());
        for (int name = 8; name < 16; name++) {
            x.stage(name, t, num(name));
        }
        due("eight are new", 8, x.define());
        due("nine", 9, x.definitions());
    }

    private void allNames() {
        begin("at most one definition to each name, in each branch");
        defineInt(A, num(1));
        for (int name = 1; name < 26; name++) {
            due("names", name + 1, x.alias(A, name));
        }
        for (int branch = 1; branch < 5; branch++) {
            due("branch", branch, x.branch());
        }
        for (int branch = 0; branch < 5; branch++) {
            x.goTo(branch);
            for (int name = 0; name < 26; name++) {
                due("a term", 't', x.kindOf(name));
            }
            due("others", 25 - 1, unnameTwo(branch));
        }
        x.goTo(0);
        due("only here", '-', x.kindOf(0));
        due("not here", 't', x.kindOf(2));
        x.stage(0, type(), num(2));
        due("a free name", 1, x.define());
        x.goTo(1);
        due("free there", '-', x.kindOf(1));
        due("not there", row(31, 1, 11, 1), x.hash(0));
    }

    private int unnameTwo(int branch) {
        x.unname(branch);
        return x.unname(25 - branch);
    }

    // Staging

    private void orderOfStaging() {
        begin("staging a name again takes the place of the earlier one, behind all others");
        int t = type();
        int wrong = ref(25);
        List<Integer> due = new ArrayList<>();
        for (int name = 0; name < 8; name++) {
            due("staged", name + 1, x.stage(name, t, wrong));
            due.add(name);
        }
        int[] again = {0, 7, 3, 3, 5, 1, 0, 7, 6, 2};
        for (int name : again) {
            due("again", 8, x.stage(name, t, wrong));
            due.remove((Integer) name);
            due.add(name);
            due("the first one", due.get(0), x.faultName());
        }
        int right = num(1);
        for (int i = 0; i < 8; i++) {
            int first = x.faultName();
            due("the first one with a fault", due.get(i), first);
            due("mended", 8, x.stage(first, t, right));
        }
        due("no fault", '-', x.fault());
        due("all", 8, x.unstage());
    }

    private void mostStaged() {
        begin("refused if 8 others are staged");
        int t = type();
        int n = num(1);
        int plus = constructors(NO);
        for (int i = 0; i < 7; i++) {
            due("staged", i + 1, x.stage(i, t, n));
        }
        due("the eighth, data", 8, x.stageData(7, false, plus));
        for (int name = 8; name < 26; name++) {
            final int ninth = name;
            refused("a term", () -> x.stage(ninth, t, n));
            refused("data", () -> x.stageData(ninth, true, plus));
        }
        for (int name = 0; name < 8; name++) {
            due("again", 8, name % 2 == 0 ? x.stage(name, t, n) : x.stageData(name, false, plus));
        }
        due("eight", 8, x.unstage());
        due("free again", 1, x.stage(25, t, n));
    }

    private void stagedAgainAsAnother() {
        begin("staging a name again, of another kind");
        int t = type();
        x.stageData(A, false, constructors(NO, NO, NO, NO, NO));
        due("data", 'k', x.fault());
        due("one", 1, x.stage(A, t, num(1)));
        due("the data is gone", '-', x.fault());
        due("one", 1, x.stageData(A, false, constructors(data(A))));
        due("the term is gone", '-', x.fault());
        due("data", 1, x.define());
        due("it is data", 'd', x.kindOf(A));
    }

    private void faultChangesNothing() {
        begin("a fault ends it, and nothing changes");
        int t = type();
        for (int name = 0; name < 6; name++) {
            x.stage(name, t, num(name));
        }
        x.stageData(8, true, constructors(NO));
        x.stage(7, t, adder(1));
        for (int i = 0; i < 3; i++) {
            unsupported("define", () -> x.define());
        }
        due("none is made", 0, x.definitions());
        due("no name", '-', x.kindOf(0));
        due("all are staged", 8, x.stage(7, t, num(7)));
        due("all are made", 8, x.define());
        due("with its number", row(30, 1, 1, 0), x.hash(8));
        x.stage(0, t, num(9));
        x.stage(7, t, adder(1));
        unsupported("update", () -> x.update());
        due("no patch", 0, x.patches());
        due("eight", 8, x.definitions());
        due("both are staged", 2, x.unstage());
    }

    private void dataFirst() {
        begin("first, all that is staged with data, in its order, all its names ahead of its number of constructors");
        int t = type();
        int five = constructors(NO, NO, NO, NO, NO);
        int none = constructors(data(25));
        int both = constructors(data(25), NO, NO, NO, NO);
        int late = constructors(NO, NO, NO, NO, arrow(t, data(25)));
        x.stage(A, t, ref(25));
        x.stageData(B, false, five);
        x.stageData(C, false, none);
        due("in its order", 'k', x.fault());
        due("the first", B, x.faultName());
        x.stageData(B, false, five);
        due("in its order", 'n', x.fault());
        due("the first", C, x.faultName());
        x.stageData(C, false, constructors(NO));
        due("the other one", B, x.faultName());
        x.stageData(B, false, both);
        due("names ahead of the number", 'n', x.fault());
        x.stageData(B, false, late);
        due("all its names", 'n', x.fault());
        x.stageData(B, false, constructors(NO, NO, NO, NO));
        due("then terms", 'n', x.fault());
        due("the term", A, x.faultName());
    }

    private void dataItself() {
        begin("a type with a name in it means the data itself");
        defineData(A, type());
        x.stageData(A, false, constructors(NO, data(A)));
        due("not that in the branch", '-', x.fault());
        x.update();
        due("itself", row(30, 0, 2, 0, 1, 4), x.hash(A));
        x.unname(A);
        x.stageData(A, false, constructors(data(A)));
        x.stageData(B, false, constructors(data(B), data(A)));
        x.define();
        due("itself, without another one", row(30, 0, 1, 1, 4), x.hash(A));
        due("itself and another one", row(30, 0, 2, 1, 4, 1, 3, x.hash(A)), x.hash(B));
        begin("a term with the name of the data itself");
        defineInt(A, num(1));
        x.stageData(A, false, constructors(data(A)));
        due("itself", '-', x.fault());
        refused("but of another kind", () -> x.update());
    }

    private void dataAhead() {
        begin("or data that was staged ahead of it, or otherwise that with this name in the branch");
        int needs = constructors(data(B));
        int other = constructors(type());
        x.stageData(A, false, needs);
        x.stageData(B, false, other);
        due("not behind it", 'n', x.fault());
        due("it", A, x.faultName());
        x.stageData(A, false, needs);
        due("ahead of it", '-', x.fault());
        x.define();
        due("what was staged", row(30, 0, 1, 1, 3, row(30, 0, 1, 1, 1)), x.hash(A));
        x.stageData(A, false, needs);
        x.stageData(B, false, constructors(NO));
        due("otherwise that in the branch", '-', x.fault());
        x.update();
        due("a needed the old one, which became the new one", row(30, 0, 1, 1, 3, x.hash(B)), x.hash(A));
        x.goTo(x.branch());
        x.unname(B);
        x.stageData(10, false, needs);
        due("not that in another branch", 'n', x.fault());
        x.stage(B, type(), num(1));
        due("a term that is staged is none", 'n', x.fault());
        x.unstage();
        defineInt(B, num(1));
        x.stageData(10, false, needs);
        due("a term in the branch is none", 'n', x.fault());
        x.stageData(B, false, other);
        x.stageData(10, false, needs);
        due("staged, where the branch has a term", '-', x.fault());
    }

    private void termsInTheirOrder() {
        begin("then all staged terms, in their order");
        int t = type();
        x.stage(C, t, ref(25));
        x.stage(A, data(25), num(1));
        x.stage(B, t, make(25, 0, NO));
        due("no name", 'n', x.fault());
        due("the first", C, x.faultName());
        x.stage(C, t, num(1));
        due("in the type", A, x.faultName());
        x.stage(A, t, num(1));
        due("data", B, x.faultName());
        x.stage(B, t, num(1));
        due("none", '-', x.fault());
        x.stage(A, t, ref(B));
        x.stage(B, t, ref(A));
        due("staged behind it, too", '-', x.fault());
        x.stage(B, t, ref(B));
        due("itself", '-', x.fault());
    }

    private void neededKinds() {
        begin("none of the needed kind, neither staged nor, then, in the branch");
        int t = type();
        defineInt(A, num(1));
        defineData(B, NO);
        x.stage(C, t, ref(B));
        due("data is no term", 'n', x.fault());
        x.stage(C, data(A), num(1));
        due("a term is no data", 'n', x.fault());
        x.stage(C, t, cases(A, num(1), num(1)));
        due("nor for branches", 'n', x.fault());
        x.stage(C, t, ref(B));
        x.stage(B, t, num(3));
        due("staged as a term", '-', x.fault());
        x.stage(C, data(B), make(B, 0, NO));
        due("in the branch as data", '-', x.fault());
        x.stageData(A, false, constructors(NO));
        x.stage(C, t, ref(A));
        due("in the branch as a term", '-', x.fault());
        x.stage(C, data(A), make(A, 0, NO));
        due("staged as data", '-', x.fault());
        x.stage(C, data(A), ref(D));
        x.stageData(D, false, constructors(NO));
        due("staged as data alone", 'n', x.fault());
        x.stage(C, data(E), num(1));
        x.stage(E, t, num(1));
        due("staged as a term alone", 'n', x.fault());
        due("it", C, x.faultName());
    }

    private void checkedInTheirOrder() {
        begin("then they are checked, in their order");
        int t = type();
        x.stage(B, t, adder(1));
        x.stage(A, t, adder(1));
        x.stage(C, t, num(1));
        due("the type", 't', x.fault());
        due("the first", B, x.faultName());
        x.stage(B, t, adder(1));
        due("the other", A, x.faultName());
        x.stage(C, t, ref(25));
        due("names of all ahead of types", 'n', x.fault());
        due("it", C, x.faultName());
        x.stageData(D, false, constructors(NO, NO, NO, NO, NO));
        due("data ahead of names", 'k', x.fault());
    }

    // Checking

    private void typed(String what, char want, int type, int term) {
        x.stage(25, type, term);
        due(what, want, x.fault());
        x.unstage();
    }

    private void boundVariables() {
        for (int binders = 0; binders <= 4; binders++) {
            begin("it is the fault 't' if a variable is not bound; binders: " + binders);
            int t = type();
            for (int v : new int[] {0, 1, 2, 3, 4, 5, 29, 30}) {
                int term = var(v);
                for (int i = 0; i < binders; i++) {
                    term = let(num(i), term);
                }
                typed("variable " + v, v < binders ? '-' : 't', t, term);
                int type = t;
                term = var(v);
                for (int i = 0; i < binders; i++) {
                    term = fn(t, term);
                    type = arrow(t, type);
                }
                typed("in functions " + v, v < binders ? '-' : 't', type, term);
            }
        }
        begin("what is bound is bound in the body alone");
        int t = type();
        typed("let", 't', t, let(var(0), num(1)));
        typed("behind a let", 't', t, op(let(num(1), num(2)), '+', var(0)));
        typed("beside a function", 't', t, app(fn(t, num(1)), var(0)));
        defineData(A, NO, t);
        typed("beside branches", 't', t, cases(A, make(A, 1, var(0)), num(1), var(0)));
        typed("in the branch without an argument", 't', t, cases(A, make(A, 0, NO), var(0), num(1)));
        typed("in the branch with one", '-', t, cases(A, make(A, 0, NO), num(1), var(0)));
        typed("further out than the argument", 't', t, cases(A, make(A, 0, NO), num(1), var(1)));
    }

    private void deepestVariable() {
        begin("as many binders as a depth of 20 leaves");
        int t = type();
        int outermost = var(18);
        for (int i = 19; i >= 1; i--) {
            outermost = let(num(i), outermost);
        }
        x.stage(A, t, outermost);
        int over = var(19);
        for (int i = 0; i < 19; i++) {
            over = let(num(0), over);
        }
        x.stage(B, t, over);
        due("19 binders", 't', x.fault());
        due("not the one within", B, x.faultName());
        x.stage(B, t, num(1));
        x.define();
        due("its value", "1", value(A));
        StringBuilder whole = new StringBuilder();
        for (int i = 0; i < 19; i++) {
            whole.append("(x").append(i).append(" = ").append(i + 1).append("; ");
        }
        due("written, and cut off", whole.append("x0").append(")".repeat(19)).substring(0, 200), written(A));
    }

    private void constructorThatIsThere() {
        for (int count = 1; count <= 4; count++) {
            begin("'m' needs a constructor that is there; of " + count);
            int[] types = new int[count];
            java.util.Arrays.fill(types, NO);
            defineData(A, types);
            for (int b = 0; b <= 3; b++) {
                typed("constructor " + b, b < count ? '-' : 't', data(A), make(A, b, NO));
            }
        }
    }

    private void argumentOfConstructor() {
        begin("'m' needs an argument of its type if it has one, none otherwise");
        int t = type();
        defineData(A, NO, t, intToInt(), data(A));
        int d = data(A);
        int[] given = {NO, num(1), adder(1), make(A, 0, NO)};
        for (int b = 0; b < 4; b++) {
            for (int i = 0; i < 4; i++) {
                typed("constructor " + b + " with " + i, b == i ? '-' : 't', d, make(A, b, given[i]));
            }
        }
        typed("it is of the data", 't', t, make(A, 1, num(1)));
    }

    private void asManyBranches() {
        for (int count = 1; count <= 4; count++) {
            begin("as many branches as it has constructors; of " + count);
            int[] types = new int[count];
            java.util.Arrays.fill(types, NO);
            types[count - 1] = type();
            defineData(A, types);
            int function = arrow(data(A), type());
            int next = NO;
            for (int branches = 1; branches <= 6; branches++) {
                next = x.node('b', num(branches), next, 0);
                int term = fn(data(A), x.node('c', A, var(0), next));
                typed(branches + " branches", branches == count ? '-' : 't', function, term);
            }
        }
    }

    /** Numbers from 0: the first node is the last constructor, or the type of an argument. */
    private void nodeNoughtIsOneOfThem() {
        begin("as many branches as it has constructors, of which the node 0 is the last one");
        int chain = x.node('+', NO, NO, 0);
        due("the first node", 0, chain);
        chain = x.node('+', NO, chain, 0);
        x.stageData(A, false, chain);
        x.define();
        int value = make(A, 0, NO);
        typed("one", 't', type(), cases(A, value, num(1)));
        typed("two", '-', type(), cases(A, value, num(1), num(2)));
        typed("three", 't', type(), cases(A, value, num(1), num(2), num(3)));
        begin("an argument of the type that is the node 0");
        due("the first node", 0, type());
        defineData(A, 0, NO, 0);
        due("written", "c0 int | c1 | c2 int", written(A));
        due("hashed", row(30, 0, 3, 1, 1, 0, 1, 1), x.hash(A));
        x.stage(B, data(A), make(A, 2, num(1)));
        x.stage(C, type(), cases(A, ref(B), var(0), num(2), op(var(0), '+', num(3))));
        x.define();
        due("bound", "4", value(C));
        due("written", "(b | c0 x0 => x0 | c1 => 2 | c2 x0 => (x0 + 3))", written(C));
        typed("without", 't', data(A), make(A, 0, NO));
    }

    private int sumOfRefs(int from, int to) {
        int middle = (from + to) / 2;
        return from == to ? ref(from) : op(sumOfRefs(from, middle), '+', sumOfRefs(middle + 1, to));
    }

    /** A name that is a term in the branch and staged as data means both. */
    private void mostMeanings() {
        begin("names of data and of terms, all of them in one term");
        int t = type();
        for (int name = 0; name < 26; name++) {
            defineInt(name, num(name));
        }
        int plus = constructors(NO);
        int all = sumOfRefs(0, 25);
        for (int name = 0; name < 7; name++) {
            x.stageData(name, false, plus);
            all = let(make(name, 0, NO), all);
        }
        x.stage(25, t, all);
        due("26 terms and 7 data", '-', x.fault());
        int wrong = let(make(7, 0, NO), all);
        x.stage(25, t, wrong);
        due("a term that is no data", 'n', x.fault());
        x.stage(25, data(0), all);
        due("its type", 't', x.fault());
        x.stage(25, data(6), app(fn(t, make(6, 0, NO)), all));
        due("it is no int then, but is in the sum", 't', x.fault());
        refused("they are of other kinds", () -> x.update());
        due("eight", 8, x.unstage());
        // what is looked at later does not take the place of what the first one means
        x.stage(25, t, op(sumOfRefs(0, 23), '+', let(make(5, 0, NO), let(make(4, 0, NO), let(make(3, 0, NO),
            let(make(2, 0, NO), let(make(1, 0, NO), let(make(0, 0, NO), ref(25)))))))));
        x.stage(24, data(0), let(make(1, 0, NO), let(make(2, 0, NO), let(make(3, 0, NO), make(0, 0, NO)))));
        for (int name = 0; name < 6; name++) {
            x.stageData(name, false, plus);
        }
        due("25 terms and 6 data, and four data", '-', x.fault());
    }

    private void branchesOfOneType() {
        begin("all of one type");
        defineData(A, NO, NO, NO, type());
        int value = make(A, 0, NO);
        int n = num(1);
        int function = adder(1);
        for (int odd = 0; odd < 4; odd++) {
            int[] terms = {n, n, n, n};
            int[] others = {function, function, function, function};
            typed("all ints", '-', type(), cases(A, value, terms));
            typed("all functions", '-', intToInt(), cases(A, value, others));
            terms[odd] = function;
            others[odd] = n;
            typed("an odd one " + odd, 't', type(), cases(A, value, terms));
            typed("an odd one " + odd, 't', intToInt(), cases(A, value, others));
        }
    }

    private void sidesOfOperators() {
        begin("both sides of an operator are ints, and so is what it gives");
        int n = num(1);
        int function = adder(1);
        for (char sign : "+-*<=".toCharArray()) {
            typed("ints", '-', type(), op(n, sign, n));
            typed("left", 't', type(), op(function, sign, n));
            typed("right", 't', type(), op(n, sign, function));
            typed("both", 't', type(), op(function, sign, function));
            typed("no function", 't', intToInt(), op(n, sign, n));
        }
        begin("the first part of '?' is an int, the others have one type");
        int m = num(1);
        int f = adder(1);
        typed("ints", '-', type(), choice(m, m, m));
        typed("functions", '-', intToInt(), choice(m, f, f));
        typed("a function first", 't', type(), choice(f, m, m));
        typed("unlike", 't', type(), choice(m, m, f));
        typed("unlike", 't', type(), choice(m, f, m));
        typed("unlike", 't', intToInt(), choice(m, f, m));
        typed("no int", 't', intToInt(), choice(m, m, m));
    }

    private void sameData() {
        begin("data are the same if their hashes are");
        int t = type();
        defineData(A, t);
        x.stageData(B, false, constructors(t));
        x.stageData(C, true, constructors(t));
        x.define();
        typed("the same", '-', data(A), make(B, 0, num(1)));
        typed("in functions", '-', arrow(data(A), data(B)), fn(data(B), var(0)));
        typed("branches", '-', arrow(data(A), t), fn(data(A), cases(B, var(0), var(0))));
        typed("unique", 't', data(A), make(C, 0, num(1)));
        typed("unique in a function", 't', arrow(data(A), data(C)), fn(data(C), var(0)));
        typed("branches of unique", 't', arrow(data(A), t), fn(data(A), cases(C, var(0), var(0))));
        x.stageData(D, false, constructors(t));
        x.stage(E, data(D), make(A, 0, num(2)));
        due("with what is staged, too", '-', x.fault());
    }
}
