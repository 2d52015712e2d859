import java.util.ArrayList;
import java.util.Collections;
import java.util.HashMap;
import java.util.HashSet;
import java.util.LinkedHashMap;
import java.util.LinkedHashSet;
import java.util.List;
import java.util.Map;
import java.util.NoSuchElementException;
import java.util.Set;
import java.util.TreeMap;
import java.util.TreeSet;

/**
 * The document once more, written as plainly as can be with the Java library: whole trees in place of
 * nodes, hashes in place of references, recursion wherever it is handy. RandomRunsTest compares the
 * program with it.
 */
final class Model {
    /** A part of a type or a term. A ref is the hash of what is meant, or the index of a member of the own group. */
    record Tree(char kind, int a, int b, Object ref, Tree one, Tree two, List<Tree> more) {
        static Tree of(char kind, int a, int b, Object ref, Tree one, Tree two) {
            return new Tree(kind, a, b, ref, one, two, List.of());
        }
    }

    static final String SELF = "self";

    /** A definition; data has a type for each constructor, null for none. */
    record Def(boolean isData, int own, Tree type, Tree term, List<Tree> constructors) {
        Set<Object> refs() {
            Set<Object> refs = new LinkedHashSet<>();
            if (isData) {
                constructors.forEach(c -> collect(c, refs));
            } else {
                collect(type, refs);
                collect(term, refs);
            }
            refs.remove(SELF);
            return refs;
        }

        private static void collect(Tree tree, Set<Object> refs) {
            if (tree == null) {
                return;
            }
            if (tree.ref != null) {
                refs.add(tree.ref);
            }
            collect(tree.one, refs);
            collect(tree.two, refs);
            tree.more.forEach(t -> collect(t, refs));
        }
    }

    record Staged(int name, boolean isData, int own, int type, int term) { }

    private static final class Fault extends Exception {
        final char letter;
        final int name;

        Fault(char letter, int name) {
            this.letter = letter;
            this.name = name;
        }
    }

    private static final class Stop extends RuntimeException { }

    /**
     * The document does not tell the answer: a term would be worked out that lost its types, since a hash
     * in it is that of another definition.
     */
    static final class Unclear extends RuntimeException { }

    static final class Job {
        long hash;
        int machine;
        char state = 'w';
    }

    final List<int[]> nodes = new ArrayList<>();
    final List<Staged> staged = new ArrayList<>();
    int uniques;
    /** The codebase, in the order in which definitions were made. */
    final Map<Long, Def> made = new LinkedHashMap<>();
    final List<Map<Integer, Long>> branchNames = new ArrayList<>(List.of(new TreeMap<>()));
    final List<Integer> branchLast = new ArrayList<>(Collections.singletonList(null));
    int present;
    final List<Map<Integer, Long>> commitNames = new ArrayList<>();
    final List<Set<Integer>> commitParents = new ArrayList<>();
    final List<Map<Long, Long>> patchList = new ArrayList<>();
    final TreeSet<Integer> todos = new TreeSet<>();
    final TreeSet<Integer> conflicts = new TreeSet<>();
    final Map<Long, Character> tested = new HashMap<>();
    int testCount;
    final Map<Long, Object> outcomes = new HashMap<>();
    final List<Job> jobs = new ArrayList<>();
    final boolean[] isDown = new boolean[3];
    final List<Set<Long>> machines = List.of(new HashSet<>(), new HashSet<>(), new HashSet<>());
    long sent;
    String line = "";

    // Nodes

    private static boolean isType(char kind) {
        return "j>d".indexOf(kind) >= 0;
    }

    private static boolean isTerm(char kind) {
        return "ivfao?lrmc".indexOf(kind) >= 0;
    }

    private char kind(int node) {
        return node < 0 || node >= nodes.size() ? ' ' : (char) nodes.get(node)[0];
    }

    private boolean type(int node) {
        return isType(kind(node));
    }

    private boolean term(int node) {
        return isTerm(kind(node));
    }

    private static boolean name(int n) {
        return n >= 0 && n <= 25;
    }

    int node(char kind, int a, int b, int c) {
        boolean fits = switch (kind) {
            case 'j', 'i' -> true;
            case '>' -> type(a) && type(b);
            case 'd', 'r' -> name(a);
            case 'v' -> a >= 0 && a <= 30;
            case 'f' -> type(a) && term(b);
            case 'a', 'l' -> term(a) && term(b);
            case 'o' -> term(a) && term(b) && c >= 0 && c <= 4;
            case '?' -> term(a) && term(b) && term(c);
            case 'm' -> name(a) && b >= 0 && b <= 3 && (c == -1 || term(c));
            case 'c' -> name(a) && term(b) && kind(c) == 'b';
            case 'b' -> term(a) && (b == -1 || kind(b) == 'b');
            case '+' -> (a == -1 || type(a)) && (b == -1 || kind(b) == '+');
            default -> false;
        };
        if (!fits) {
            throw new IllegalArgumentException();
        }
        int[] parts = switch (kind) {
            case '>', 'f', 'a', 'l', 'o' -> new int[] {a, b};
            case '?' -> new int[] {a, b, c};
            case 'm' -> new int[] {c};
            case 'c' -> new int[] {b, c};
            case 'b', '+' -> new int[] {a};
            default -> new int[0];
        };
        int next = kind == 'b' || kind == '+' ? b : -1;
        int depth = 1;
        int weight = 1;
        for (int part : parts) {
            if (part >= 0) {
                depth = Math.max(depth, nodes.get(part)[4] + 1);
                weight += nodes.get(part)[5];
            }
        }
        if (next >= 0) {
            depth = Math.max(depth, nodes.get(next)[4]);
            weight += nodes.get(next)[5];
        }
        if (nodes.size() >= 300 || depth > 20 || weight > 200) {
            throw new IllegalStateException();
        }
        nodes.add(new int[] {kind, a, b, c, depth, weight});
        return nodes.size() - 1;
    }

    // Staging

    private static void checkName(int name) {
        if (!name(name)) {
            throw new IllegalArgumentException();
        }
    }

    private void checkNode(int node) {
        if (node < 0 || node >= nodes.size()) {
            throw new NoSuchElementException();
        }
    }

    private void place(Staged s) {
        staged.removeIf(other -> other.name == s.name);
        staged.add(s);
    }

    private void checkPlace(int name) {
        if (staged.stream().filter(s -> s.name != name).count() >= 8) {
            throw new IllegalStateException();
        }
    }

    int stage(int name, int type, int term) {
        checkName(name);
        checkNode(type);
        checkNode(term);
        if (!type(type) || !term(term)) {
            throw new UnsupportedOperationException();
        }
        checkPlace(name);
        place(new Staged(name, false, 0, type, term));
        return staged.size();
    }

    int stageData(int name, boolean isUnique, int constructor) {
        checkName(name);
        checkNode(constructor);
        if (kind(constructor) != '+') {
            throw new UnsupportedOperationException();
        }
        checkPlace(name);
        place(new Staged(name, true, isUnique ? ++uniques : 0, -1, constructor));
        return staged.size();
    }

    int unstage() {
        int n = staged.size();
        staged.clear();
        return n;
    }

    Map<Integer, Long> names() {
        return branchNames.get(present);
    }

    /** What names mean while staged ones are looked at. */
    private interface Meaning {
        Object of(int name) throws NoSuchElementException;
    }

    private Tree typeTree(int node, Meaning data) {
        int[] n = nodes.get(node);
        return switch ((char) n[0]) {
            case 'j' -> Tree.of('j', 0, 0, null, null, null);
            case '>' -> Tree.of('>', 0, 0, null, typeTree(n[1], data), typeTree(n[2], data));
            default -> Tree.of('d', 0, 0, data.of(n[1]), null, null);
        };
    }

    private Tree termTree(int node, Meaning data, Meaning terms) {
        int[] n = nodes.get(node);
        switch ((char) n[0]) {
            case 'i':
            case 'v':
                return Tree.of((char) n[0], n[1], 0, null, null, null);
            case 'f':
                return Tree.of('f', 0, 0, null, typeTree(n[1], data), termTree(n[2], data, terms));
            case 'a':
            case 'l':
            case 'o':
                return Tree.of((char) n[0], n[0] == 'o' ? n[3] : 0, 0, null, termTree(n[1], data, terms),
                    termTree(n[2], data, terms));
            case '?':
                return new Tree('?', 0, 0, null, termTree(n[1], data, terms), termTree(n[2], data, terms),
                    List.of(termTree(n[3], data, terms)));
            case 'r':
                return Tree.of('r', 0, 0, terms.of(n[1]), null, null);
            case 'm':
                return Tree.of('m', 0, n[2], data.of(n[1]), n[3] < 0 ? null : termTree(n[3], data, terms), null);
            default:
                List<Tree> branches = new ArrayList<>();
                for (int at = n[3]; at >= 0; at = nodes.get(at)[2]) {
                    branches.add(termTree(nodes.get(at)[1], data, terms));
                }
                return new Tree('c', 0, 0, data.of(n[1]), termTree(n[2], data, terms), null, branches);
        }
    }

    private Long inBranch(int name, boolean isData) {
        Long hash = names().get(name);
        if (hash == null || made.get(hash).isData != isData) {
            throw new NoSuchElementException();
        }
        return hash;
    }

    private int stagedIndex(int name, boolean isData) {
        for (int i = 0; i < staged.size(); i++) {
            if (staged.get(i).name == name && staged.get(i).isData == isData) {
                return i;
            }
        }
        return -1;
    }

    /** A staged one ahead of a place is its index, what is in the branch its hash. */
    private Object meant(int name, boolean isData, int ahead) {
        int index = stagedIndex(name, isData);
        return index >= 0 && index < ahead ? (Object) index : inBranch(name, isData);
    }

    /** What is staged as definitions, in the order of staging; the hashes of data are put into `hashes`. */
    private List<Def> look(Map<Object, Object> hashes) throws Fault {
        List<Def> protos = new ArrayList<>(Collections.nCopies(staged.size(), null));
        for (int i = 0; i < staged.size(); i++) {
            Staged s = staged.get(i);
            if (s.isData) {
                final int ahead = i;
                List<Tree> constructors = new ArrayList<>();
                try {
                    for (int at = s.term; at >= 0; at = nodes.get(at)[2]) {
                        int argument = nodes.get(at)[1];
                        constructors.add(argument < 0 ? null
                            : typeTree(argument, n -> n == s.name ? SELF : meant(n, true, ahead)));
                    }
                } catch (NoSuchElementException e) {
                    throw new Fault('n', s.name);
                }
                if (constructors.size() > 4) {
                    throw new Fault('k', s.name);
                }
                protos.set(i, new Def(true, s.own, null, null, constructors));
                hashes.put(i, hashOf(row(replace(protos.get(i), hashes), false, Map.of())));
            }
        }
        for (int i = 0; i < staged.size(); i++) {
            Staged s = staged.get(i);
            if (!s.isData) {
                Meaning data = n -> meant(n, true, 8);
                try {
                    Tree type = typeTree(s.type, data);
                    protos.set(i, new Def(false, 0, type, termTree(s.term, data, n -> meant(n, false, 8)), null));
                } catch (NoSuchElementException e) {
                    throw new Fault('n', s.name);
                }
            }
        }
        for (int i = 0; i < staged.size(); i++) {
            if (!staged.get(i).isData && !new Types(protos, hashes).has(protos.get(i))) {
                throw new Fault('t', staged.get(i).name);
            }
        }
        return protos;
    }

    // Groups and hashes

    /** Makes definitions of what is staged; each hash is kept once. */
    private Map<Integer, Long> settleStaged(List<Def> protos) {
        Map<Object, Object> done = new HashMap<>();
        List<Integer> terms = new ArrayList<>();
        for (int i = 0; i < protos.size(); i++) {
            if (protos.get(i).isData) {
                Def def = replace(protos.get(i), done);
                long hash = hashOf(row(def, false, Map.of()));
                made.putIfAbsent(hash, def);
                done.put(i, hash);
            } else {
                terms.add(i);
            }
        }
        settle(terms, protos, done);
        Map<Integer, Long> given = new LinkedHashMap<>();
        for (int i = 0; i < protos.size(); i++) {
            given.put(staged.get(i).name, (Long) done.get(i));
        }
        return given;
    }

    /** Keeps terms that refer to one another by their indices; the first that can be is made first. */
    private void settle(List<Integer> terms, List<Def> protos, Map<Object, Object> done) {
        Map<Integer, Set<Integer>> reach = new HashMap<>();
        for (int i : terms) {
            Set<Integer> seen = new TreeSet<>();
            List<Integer> open = new ArrayList<>(List.of(i));
            while (!open.isEmpty()) {
                for (Object ref : protos.get(open.remove(0)).refs()) {
                    if (ref instanceof Integer j && terms.contains(j) && seen.add(j)) {
                        open.add(j);
                    }
                }
            }
            reach.put(i, seen);
        }
        while (!done.keySet().containsAll(terms)) {
            for (int i : terms) {
                final int at = i;
                Set<Integer> group = new TreeSet<>(List.of(i));
                reach.get(i).stream().filter(j -> reach.get(j).contains(at)).forEach(group::add);
                Set<Integer> others = new TreeSet<>(reach.get(i));
                others.removeAll(group);
                if (!done.containsKey(i) && done.keySet().containsAll(others)) {
                    hashGroup(new ArrayList<>(group), protos, done, reach.get(i).contains(i));
                    break;
                }
            }
        }
    }

    private void hashGroup(List<Integer> group, List<Def> protos, Map<Object, Object> done, boolean isGroup) {
        List<Def> members = new ArrayList<>();
        group.forEach(i -> members.add(replace(protos.get(i), done)));
        if (!isGroup) {
            long hash = hashOf(row(members.get(0), false, Map.of()));
            made.putIfAbsent(hash, members.get(0));
            done.put(group.get(0), hash);
            return;
        }
        List<Integer> order = new ArrayList<>();
        List<Long> hashes = groupHashes(group, members, order);
        for (int place = 0; place < order.size(); place++) {
            done.put(group.get(order.get(place)), hashes.get(place));
        }
        for (int place = 0; place < order.size(); place++) {
            made.putIfAbsent(hashes.get(place), replace(members.get(order.get(place)), done));
        }
    }

    /** The hashes of the members of a group by their places; the order of these is put into `order`. */
    private static List<Long> groupHashes(List<Integer> group, List<Def> members, List<Integer> order) {
        for (int i = 0; i < group.size(); i++) {
            order.add(i);
        }
        order.sort((x, y) -> Long.compare(fold(row(members.get(x), true, Map.of())),
            fold(row(members.get(y), true, Map.of()))));
        Map<Integer, Integer> places = new HashMap<>();
        for (int i = 0; i < order.size(); i++) {
            places.put(group.get(order.get(i)), i);
        }
        List<Long> row = new ArrayList<>(List.of(32L, (long) group.size()));
        order.forEach(i -> row.addAll(row(members.get(i), false, places)));
        long whole = fold(row);
        List<Long> hashes = new ArrayList<>();
        for (long place = 0; place < order.size(); place++) {
            hashes.add(hashOf(List.of(33L, whole, place)));
        }
        return hashes;
    }

    /** The hashes of all that is in the codebase, found anew from the rows. */
    private Map<Long, Long> anew() {
        Map<Object, Object> done = new HashMap<>();
        Map<Long, Long> all = new HashMap<>();
        while (all.size() < made.size()) {
            for (long hash : made.keySet()) {
                List<Long> group = new ArrayList<>(made.keySet());
                group.retainAll(groupAmong(hash, made.keySet()));
                Set<Long> others = neededBy(hash);
                boolean isGroup = others.contains(hash);
                others.removeAll(group);
                if (!all.containsKey(hash) && all.keySet().containsAll(others)) {
                    Map<Object, Object> by = new HashMap<>(done);
                    List<Integer> indices = new ArrayList<>();
                    for (int i = 0; i < group.size() && isGroup; i++) {
                        by.put(group.get(i), i);
                        indices.add(i);
                    }
                    List<Def> members = new ArrayList<>();
                    group.forEach(h -> members.add(replace(made.get(h), by)));
                    List<Integer> order = new ArrayList<>(isGroup ? List.of() : List.of(0));
                    List<Long> hashes = isGroup ? groupHashes(indices, members, order)
                        : List.of(hashOf(row(members.get(0), false, Map.of())));
                    for (int place = 0; place < order.size(); place++) {
                        done.put(group.get(order.get(place)), hashes.get(place));
                        all.put(group.get(order.get(place)), hashes.get(place));
                    }
                }
            }
        }
        return all;
    }

    private static Def replace(Def def, Map<Object, Object> by) {
        if (def.isData) {
            List<Tree> constructors = new ArrayList<>();
            def.constructors.forEach(c -> constructors.add(replace(c, by)));
            return new Def(true, def.own, null, null, constructors);
        }
        return new Def(false, 0, replace(def.type, by), replace(def.term, by), null);
    }

    private static Tree replace(Tree tree, Map<Object, Object> by) {
        if (tree == null) {
            return null;
        }
        Object ref = tree.ref == null ? null : by.getOrDefault(tree.ref, tree.ref);
        List<Tree> more = tree.more.stream().map(t -> replace(t, by)).toList();
        return new Tree(tree.kind, tree.a, tree.b, ref, replace(tree.one, by), replace(tree.two, by), more);
    }

    /** The hash of a definition. */
    static long hashOf(List<Long> row) {
        return fold(row);
    }

    static long fold(List<Long> row) {
        long hash = -3750763034362895579L;
        for (long number : row) {
            hash = ((hash << 5 | hash >>> 59) ^ number) * 1099511628211L;
        }
        return hash;
    }

    private static List<Long> row(Def def, boolean zeros, Map<Integer, Integer> places) {
        List<Long> row = new ArrayList<>();
        if (def.isData) {
            row.addAll(List.of(30L, (long) def.own, (long) def.constructors.size()));
            for (Tree c : def.constructors) {
                row.add(c == null ? 0L : 1L);
                rows(c, row, zeros, places);
            }
            return row;
        }
        row.add(31L);
        rows(def.type, row, zeros, places);
        rows(def.term, row, zeros, places);
        return row;
    }

    private static void rows(Tree t, List<Long> row, boolean zeros, Map<Integer, Integer> places) {
        if (t == null) {
            return;
        }
        switch (t.kind) {
            case 'j' -> row.add(1L);
            case '>' -> row.add(2L);
            case 'd' -> row.addAll(t.ref.equals(SELF) ? List.of(4L) : List.of(3L, (Long) t.ref));
            case 'i' -> row.addAll(List.of(11L, (long) t.a));
            case 'v' -> row.addAll(List.of(12L, (long) t.a));
            case 'f' -> row.add(13L);
            case 'a' -> row.add(14L);
            case 'o' -> row.addAll(List.of(15L, (long) t.a));
            case '?' -> row.add(16L);
            case 'l' -> row.add(17L);
            case 'r' -> row.addAll(t.ref instanceof Integer i ? List.of(19L, zeros ? 0L : (long) places.get(i))
                : List.of(18L, (Long) t.ref));
            case 'm' -> row.addAll(List.of(20L, (Long) t.ref, (long) t.b));
            default -> row.addAll(List.of(21L, (Long) t.ref));
        }
        rows(t.one, row, zeros, places);
        rows(t.two, row, zeros, places);
        t.more.forEach(m -> rows(m, row, zeros, places));
    }

    // Checking

    private static final Tree INT = Tree.of('j', 0, 0, null, null, null);

    /** Finds types, in which data is told by its hash; refs are hashes, or indices of protos. */
    private final class Types {
        private final List<Def> protos;
        private final Map<Object, Object> hashes;

        Types(List<Def> protos, Map<Object, Object> hashes) {
            this.protos = protos;
            this.hashes = hashes;
        }

        boolean has(Def def) {
            return replace(def.type, hashes).equals(infer(def.term, new ArrayList<>()));
        }

        private Def find(Object ref) {
            return ref instanceof Integer i ? protos.get(i) : made.get(ref);
        }

        private Tree data(Object ref) {
            return Tree.of('d', 0, 0, hashes.getOrDefault(ref, ref), null, null);
        }

        private Tree argument(Object ref, int constructor) {
            Map<Object, Object> by = new HashMap<>(hashes);
            by.put(SELF, data(ref).ref);
            return replace(find(ref).constructors.get(constructor), by);
        }

        private Tree under(Tree type, Tree term, List<Tree> env) {
            if (type == null) {
                return null;
            }
            List<Tree> inside = new ArrayList<>(env);
            inside.add(0, type);
            return infer(term, inside);
        }

        private boolean isInt(Tree term, List<Tree> env) {
            return INT.equals(infer(term, env));
        }

        private Tree infer(Tree t, List<Tree> env) {
            switch (t.kind) {
                case 'i':
                    return INT;
                case 'v':
                    return t.a < env.size() ? env.get(t.a) : null;
                case 'f':
                    Tree from = replace(t.one, hashes);
                    Tree to = under(from, t.two, env);
                    return to == null ? null : Tree.of('>', 0, 0, null, from, to);
                case 'a':
                    Tree function = infer(t.one, env);
                    Tree given = infer(t.two, env);
                    return function != null && function.kind == '>' && function.one.equals(given) ? function.two : null;
                case 'o':
                    return isInt(t.one, env) && isInt(t.two, env) ? INT : null;
                case '?':
                    Tree yes = infer(t.two, env);
                    boolean isOne = yes != null && yes.equals(infer(t.more.get(0), env));
                    return isOne && isInt(t.one, env) ? yes : null;
                case 'l':
                    return under(infer(t.one, env), t.two, env);
                case 'r':
                    return replace(find(t.ref).type, hashes);
                case 'm':
                    Def of = find(t.ref);
                    if (!of.isData || t.b >= of.constructors.size()) {
                        return null;
                    }
                    Tree wanted = argument(t.ref, t.b);
                    Tree had = t.one == null ? null : infer(t.one, env);
                    boolean fits = wanted == null ? t.one == null : wanted.equals(had);
                    return fits ? data(t.ref) : null;
                default:
                    return selected(t, env);
            }
        }

        private Tree selected(Tree t, List<Tree> env) {
            Def data = find(t.ref);
            if (!data.isData || !data(t.ref).equals(infer(t.one, env)) || data.constructors.size() != t.more.size()) {
                return null;
            }
            Tree common = null;
            for (int i = 0; i < t.more.size(); i++) {
                Tree bound = argument(t.ref, i);
                Tree found = bound == null ? infer(t.more.get(i), env) : under(bound, t.more.get(i), env);
                if (found == null || common != null && !common.equals(found)) {
                    return null;
                }
                common = found;
            }
            return common;
        }
    }

    private boolean isTyped(Def def) {
        return def.isData || new Types(List.of(), Map.of()).has(def);
    }

    // Defining and updating

    private List<Def> lookOrThrow() {
        try {
            return look(new HashMap<>());
        } catch (Fault e) {
            throw new UnsupportedOperationException();
        }
    }

    int define() {
        if (staged.isEmpty() || staged.stream().anyMatch(s -> names().containsKey(s.name))) {
            throw new IllegalStateException();
        }
        List<Def> protos = lookOrThrow();
        int before = made.size();
        names().putAll(settleStaged(protos));
        staged.clear();
        return made.size() - before;
    }

    int update() {
        if (staged.isEmpty() || patchList.size() >= 20 || staged.stream().anyMatch(
                s -> !names().containsKey(s.name) || made.get(names().get(s.name)).isData != s.isData)) {
            throw new IllegalStateException();
        }
        Map<Integer, Long> given = settleStaged(lookOrThrow());
        Map<Long, Long> base = new HashMap<>();
        for (Staged s : staged) {
            base.put(names().get(s.name), given.get(s.name));
        }
        base.entrySet().removeIf(e -> e.getKey().equals(e.getValue()));
        names().putAll(given);
        Map<Long, Long> carried = carry(base);
        for (int n : new ArrayList<>(names().keySet())) {
            long has = names().get(n);
            Long next = carried.containsKey(has) ? carried.get(has) : given.containsKey(n) ? null : base.get(has);
            names().put(n, next == null ? has : next);
        }
        staged.clear();
        Map<Long, Long> patch = new HashMap<>(base);
        patch.putAll(carried);
        patchList.add(patch);
        return carried.size();
    }

    private Map<Long, Long> carry(Map<Long, Long> base) {
        todos.clear();
        Set<Long> through = new LinkedHashSet<>(made.keySet());
        through.retainAll(reachable(names().values()));
        through.removeIf(h -> base.containsKey(h) || Collections.disjoint(neededBy(h), base.keySet()));
        Map<Long, Long> carried = new HashMap<>();
        Set<Long> left = new LinkedHashSet<>(through);
        while (!left.isEmpty()) {
            for (long hash : left) {
                List<Long> group = new ArrayList<>(through);
                group.retainAll(groupAmong(hash, through));
                Set<Long> others = new HashSet<>(neededAmong(hash, through));
                others.removeAll(group);
                if (Collections.disjoint(others, left)) {
                    left.removeAll(group);
                    carryGroup(group, base, carried);
                    break;
                }
            }
        }
        return carried;
    }

    private Set<Long> neededAmong(long hash, Set<Long> among) {
        Set<Long> seen = new HashSet<>();
        List<Long> open = new ArrayList<>(List.of(hash));
        while (!open.isEmpty()) {
            for (Object ref : made.get(open.remove(0)).refs()) {
                if (among.contains(ref) && seen.add((Long) ref)) {
                    open.add((Long) ref);
                }
            }
        }
        return seen;
    }

    private Set<Long> groupAmong(long hash, Set<Long> among) {
        Set<Long> group = new HashSet<>(Set.of(hash));
        for (long other : neededAmong(hash, among)) {
            if (neededAmong(other, among).contains(hash)) {
                group.add(other);
            }
        }
        return group;
    }

    /** Members of a group stand in the order in which they were made, which is that of their places. */
    private void carryGroup(List<Long> group, Map<Long, Long> base, Map<Long, Long> carried) {
        Map<Object, Object> by = new HashMap<>(base);
        by.putAll(carried);
        if (group.stream().allMatch(h -> Collections.disjoint(made.get(h).refs(), by.keySet()))) {
            return;
        }
        for (int i = 0; i < group.size(); i++) {
            by.put(group.get(i), i);
        }
        List<Def> protos = new ArrayList<>();
        List<Integer> indices = new ArrayList<>();
        group.forEach(h -> {
            indices.add(protos.size());
            protos.add(replace(made.get(h), by));
        });
        if (!protos.stream().allMatch(p -> p.isData || new Types(protos, Map.of()).has(p))) {
            names().forEach((n, h) -> {
                if (group.contains(h)) {
                    todos.add(n);
                }
            });
            return;
        }
        Map<Object, Object> done = new HashMap<>();
        settle(indices, protos, done);
        for (int i = 0; i < group.size(); i++) {
            if (!done.get(i).equals(group.get(i))) {
                carried.put(group.get(i), (Long) done.get(i));
            }
        }
    }

    char fault() {
        try {
            look(new HashMap<>());
            return '-';
        } catch (Fault e) {
            return e.letter;
        }
    }

    int faultName() {
        try {
            look(new HashMap<>());
        } catch (Fault e) {
            return e.name;
        }
        throw new NoSuchElementException();
    }

    int todo() {
        return todos.size();
    }

    private static int at(TreeSet<Integer> set, int index) {
        if (index < 0 || index >= set.size()) {
            throw new IndexOutOfBoundsException();
        }
        return new ArrayList<>(set).get(index);
    }

    int todoAt(int index) {
        return at(todos, index);
    }

    // Names and definitions

    private long need(int name) {
        checkName(name);
        Long hash = names().get(name);
        if (hash == null) {
            throw new NoSuchElementException();
        }
        return hash;
    }

    private Set<Long> neededBy(long hash) {
        Set<Long> seen = new HashSet<>();
        List<Long> open = new ArrayList<>(List.of(hash));
        while (!open.isEmpty()) {
            for (Object ref : made.get(open.remove(0)).refs()) {
                if (seen.add((Long) ref)) {
                    open.add((Long) ref);
                }
            }
        }
        return seen;
    }

    private Set<Long> reachable(Iterable<Long> roots) {
        Set<Long> all = new HashSet<>();
        for (Long root : roots) {
            all.add(root);
            all.addAll(neededBy(root));
        }
        return all;
    }

    char kindOf(int name) {
        checkName(name);
        return !names().containsKey(name) ? '-' : made.get(names().get(name)).isData ? 'd' : 't';
    }

    long hash(int name) {
        return need(name);
    }

    boolean needs(int name, int other) {
        checkName(name);
        checkName(other);
        need(name);
        need(other);
        return neededBy(need(name)).contains(need(other));
    }

    int needed(int name) {
        return neededBy(need(name)).size();
    }

    private int count(long hash) {
        return Collections.frequency(names().values(), hash);
    }

    int alias(int name, int other) {
        checkName(name);
        checkName(other);
        long hash = need(name);
        names().put(other, hash);
        return count(hash);
    }

    int unname(int name) {
        long hash = need(name);
        names().remove(name);
        return count(hash);
    }

    int collect() {
        List<Long> roots = new ArrayList<>();
        branchNames.forEach(m -> roots.addAll(m.values()));
        commitNames.forEach(m -> roots.addAll(m.values()));
        patchList.forEach(p -> {
            roots.addAll(p.keySet());
            roots.addAll(p.values());
        });
        jobs.stream().filter(j -> j.state != 'd').forEach(j -> roots.add(j.hash));
        int before = made.size();
        made.keySet().retainAll(reachable(roots));
        return before - made.size();
    }

    // Patches

    private void checkPatch(int patch) {
        if (patch < 0 || patch >= patchList.size()) {
            throw new NoSuchElementException();
        }
    }

    int patchSize(int patch) {
        checkPatch(patch);
        return patchList.get(patch).size();
    }

    private static long becomes(long hash, Map<Long, Long> patch) {
        List<Long> come = new ArrayList<>(List.of(hash));
        while (patch.containsKey(come.get(come.size() - 1)) && !come.contains(patch.get(come.get(come.size() - 1)))) {
            come.add(patch.get(come.get(come.size() - 1)));
        }
        return come.get(come.size() - 1);
    }

    int apply(int patch) {
        checkPatch(patch);
        Map<Integer, Long> before = new HashMap<>(names());
        Map<Long, Long> base = new HashMap<>();
        patchList.get(patch).keySet().forEach(h -> base.put(h, becomes(h, patchList.get(patch))));
        base.entrySet().removeIf(e -> e.getKey().equals(e.getValue()));
        names().replaceAll((n, h) -> base.getOrDefault(h, h));
        Map<Long, Long> carried = carry(base);
        names().replaceAll((n, h) -> carried.getOrDefault(h, h));
        return (int) before.keySet().stream().filter(n -> !before.get(n).equals(names().get(n))).count();
    }

    int compose(int patch, int other) {
        checkPatch(patch);
        checkPatch(other);
        checkPatchPlace();
        Map<Long, Long> first = patchList.get(patch);
        Map<Long, Long> second = patchList.get(other);
        Map<Long, Long> both = new HashMap<>();
        second.keySet().forEach(h -> both.put(h, becomes(h, second)));
        first.keySet().forEach(h -> both.put(h, becomes(becomes(h, first), second)));
        patchList.add(both);
        return patchList.size() - 1;
    }

    private void checkPatchPlace() {
        if (patchList.size() >= 20) {
            throw new IllegalStateException();
        }
    }

    int mergePatches(int patch, int other) {
        checkPatch(patch);
        checkPatch(other);
        checkPatchPlace();
        Map<Long, Long> both = new HashMap<>(patchList.get(other));
        both.putAll(patchList.get(patch));
        int unlike = 0;
        for (Map.Entry<Long, Long> e : patchList.get(other).entrySet()) {
            unlike += both.get(e.getKey()).equals(e.getValue()) ? 0 : 1;
        }
        patchList.add(both);
        return unlike;
    }

    // Branches and commits

    private int record(Integer other) {
        Set<Integer> parents = new TreeSet<>();
        if (branchLast.get(present) != null) {
            parents.add(branchLast.get(present));
        }
        if (other != null) {
            parents.add(other);
        }
        commitNames.add(new TreeMap<>(names()));
        commitParents.add(parents);
        branchLast.set(present, commitNames.size() - 1);
        return commitNames.size() - 1;
    }

    private void checkCommitPlace() {
        if (commitNames.size() >= 40) {
            throw new IllegalStateException();
        }
    }

    int commit() {
        checkCommitPlace();
        return record(null);
    }

    int branch() {
        if (branchNames.size() >= 5) {
            throw new IllegalStateException();
        }
        branchNames.add(new TreeMap<>(names()));
        branchLast.add(branchLast.get(present));
        return branchNames.size() - 1;
    }

    private void checkBranch(int branch) {
        if (branch < 0 || branch >= branchNames.size()) {
            throw new NoSuchElementException();
        }
    }

    int goTo(int branch) {
        checkBranch(branch);
        int old = present;
        present = branch;
        return old;
    }

    private Set<Integer> ancestors(Integer commit) {
        Set<Integer> all = new TreeSet<>();
        if (commit != null) {
            all.add(commit);
            commitParents.get(commit).forEach(p -> all.addAll(ancestors(p)));
        }
        return all;
    }

    private Integer common(Integer one, Integer two) {
        TreeSet<Integer> both = new TreeSet<>(ancestors(one));
        both.retainAll(ancestors(two));
        return both.isEmpty() ? null : both.last();
    }

    int merge(int branch) {
        checkBranch(branch);
        if (branch == present) {
            throw new IllegalArgumentException();
        }
        checkCommitPlace();
        Integer base = common(branchLast.get(present), branchLast.get(branch));
        Map<Integer, Long> was = base == null ? Map.of() : commitNames.get(base);
        Map<Integer, Long> there = branchNames.get(branch);
        conflicts.clear();
        for (int n = 0; n < 26; n++) {
            Long here = names().get(n);
            if (java.util.Objects.equals(here, was.get(n))) {
                if (there.get(n) == null) {
                    names().remove(n);
                } else {
                    names().put(n, there.get(n));
                }
            } else if (!java.util.Objects.equals(there.get(n), was.get(n))
                    && !java.util.Objects.equals(there.get(n), here)) {
                conflicts.add(n);
            }
        }
        record(branchLast.get(branch));
        return conflicts.size();
    }

    int conflictAt(int index) {
        return at(conflicts, index);
    }

    private void checkCommit(int commit) {
        if (commit < 0 || commit >= commitNames.size()) {
            throw new NoSuchElementException();
        }
    }

    int ancestor(int commit, int other) {
        checkCommit(commit);
        checkCommit(other);
        Integer common = common(commit, other);
        if (common == null) {
            throw new UnsupportedOperationException();
        }
        return common;
    }

    int hashIn(int commit, int name) {
        checkCommit(commit);
        checkName(name);
        if (!commitNames.get(commit).containsKey(name)) {
            throw new NoSuchElementException();
        }
        return (int) (commitNames.get(commit).get(name) >> 32);
    }

    // Working out

    /** A function with what is bound outside of it, or a constructor with what it has. */
    record Function(Tree body, List<Object> env) { }

    record Built(int constructor, Object inner) { }

    private int begun;
    private int underWay;

    private void begin() {
        if (begun >= 300 || underWay >= 25) {
            throw new Stop();
        }
        begun++;
        underWay++;
    }

    /** An Integer, a Function or a Built, null if it is stopped. */
    private Object workOut(long hash) {
        begun = 0;
        underWay = 0;
        try {
            begin();
            return eval(made.get(hash).term, List.of());
        } catch (Stop e) {
            return null;
        }
    }

    private static List<Object> bind(Object value, List<Object> env) {
        List<Object> inside = new ArrayList<>(env);
        inside.add(0, value);
        return inside;
    }

    private Object eval(Tree t, List<Object> env) {
        switch (t.kind) {
            case 'i':
                return t.a;
            case 'v':
                return env.get(t.a);
            case 'f':
                return new Function(t.two, env);
            case 'a':
                Function function = (Function) eval(t.one, env);
                Object argument = eval(t.two, env);
                begin();
                Object back = eval(function.body, bind(argument, function.env));
                underWay--;
                return back;
            case 'o':
                int x = (Integer) eval(t.one, env);
                int y = (Integer) eval(t.two, env);
                return new int[] {x + y, x - y, x * y, x < y ? 1 : 0, x == y ? 1 : 0}[t.a];
            case '?':
                return (Integer) eval(t.one, env) != 0 ? eval(t.two, env) : eval(t.more.get(0), env);
            case 'l':
                return eval(t.two, bind(eval(t.one, env), env));
            case 'r':
                begin();
                Object value = eval(made.get((Long) t.ref).term, List.of());
                underWay--;
                return value;
            case 'm':
                return new Built(t.b, t.one == null ? null : eval(t.one, env));
            default:
                Built built = (Built) eval(t.one, env);
                return eval(t.more.get(built.constructor), built.inner == null ? env : bind(built.inner, env));
        }
    }

    private static char letter(Object value) {
        return value == null ? 'l' : value instanceof Integer ? 'i' : value instanceof Function ? 'f' : 'c';
    }

    private long needTerm(int name) {
        long hash = need(name);
        if (made.get(hash).isData) {
            throw new UnsupportedOperationException();
        }
        return hash;
    }

    private void checkClear(long hash) {
        if (!reachable(List.of(hash)).stream().allMatch(h -> isTyped(made.get(h)))) {
            throw new Unclear();
        }
    }

    char work(int name) {
        checkClear(needTerm(name));
        return letter(workOut(need(name)));
    }

    private static String show(Object value) {
        if (value instanceof Built built) {
            return "c" + built.constructor + (built.inner == null ? "" : "(" + show(built.inner) + ")");
        }
        return value == null ? "" : value instanceof Function ? "fn" : value.toString();
    }

    private int put(String text) {
        line = text.length() > 200 ? text.substring(0, 200) : text;
        return line.length();
    }

    int writeValue(int name) {
        checkClear(needTerm(name));
        return put(show(workOut(need(name))));
    }

    char test(int name) {
        long hash = need(name);
        if (made.get(hash).isData || !INT.equals(made.get(hash).type)) {
            throw new UnsupportedOperationException();
        }
        if (!tested.containsKey(hash)) {
            checkClear(hash);
            testCount++;
            Object value = workOut(hash);
            tested.put(hash, value == null ? 'l' : (Integer) value != 0 ? 'p' : 'n');
        }
        return tested.get(hash);
    }

    // Jobs

    private static void checkMachine(int machine) {
        if (machine < 0 || machine > 2) {
            throw new IllegalArgumentException();
        }
    }

    private void checkJob(int job) {
        if (job < 0 || job >= jobs.size()) {
            throw new NoSuchElementException();
        }
    }

    int job(int machine, int name) {
        checkMachine(machine);
        Job job = new Job();
        job.hash = needTerm(name);
        job.machine = machine;
        if (isDown[machine] || jobs.size() >= 30) {
            throw new IllegalStateException();
        }
        checkClear(job.hash);
        jobs.add(job);
        return jobs.size() - 1;
    }

    private List<Job> waiting(int machine) {
        return jobs.stream().filter(j -> j.state == 'w' && j.machine == machine).toList();
    }

    int goOn(int machine) {
        checkMachine(machine);
        if (isDown[machine]) {
            throw new IllegalStateException();
        }
        if (waiting(machine).isEmpty()) {
            throw new NoSuchElementException();
        }
        Job job = waiting(machine).get(0);
        if (!outcomes.containsKey(job.hash)) {
            Set<Long> lacking = reachable(List.of(job.hash));
            lacking.removeAll(machines.get(machine));
            sent += lacking.size();
            machines.get(machine).addAll(lacking);
            outcomes.put(job.hash, workOut(job.hash));
        }
        job.state = 'd';
        return jobs.indexOf(job);
    }

    char jobState(int job) {
        checkJob(job);
        return jobs.get(job).state;
    }

    private Object done(int job) {
        checkJob(job);
        if (jobs.get(job).state != 'd') {
            throw new IllegalStateException();
        }
        return outcomes.get(jobs.get(job).hash);
    }

    char outcome(int job) {
        return letter(done(job));
    }

    int result(int job) {
        if (done(job) instanceof Integer i) {
            return i;
        }
        throw new UnsupportedOperationException();
    }

    int retry(int job, int machine) {
        checkJob(job);
        checkMachine(machine);
        if (jobs.get(job).state != 'f' || isDown[machine]) {
            throw new IllegalStateException();
        }
        jobs.get(job).state = 'w';
        jobs.get(job).machine = machine;
        return waiting(machine).size();
    }

    int down(int machine) {
        checkMachine(machine);
        if (isDown[machine]) {
            throw new IllegalStateException();
        }
        List<Job> failing = waiting(machine);
        failing.forEach(j -> j.state = 'f');
        isDown[machine] = true;
        machines.get(machine).clear();
        return failing.size();
    }

    boolean up(int machine) {
        checkMachine(machine);
        boolean was = isDown[machine];
        isDown[machine] = false;
        return was;
    }

    int lacking(int machine, int name) {
        checkMachine(machine);
        Set<Long> all = reachable(List.of(need(name)));
        all.removeAll(machines.get(machine));
        return all.size();
    }

    // Writing

    private String ref(Object hash) {
        for (Map.Entry<Integer, Long> e : names().entrySet()) {
            if (e.getValue().equals(hash)) {
                return String.valueOf((char) ('a' + e.getKey()));
            }
        }
        String digits = String.format("%016x", (Long) hash);
        int n = 1;
        for (long other : made.keySet()) {
            String others = String.format("%016x", other);
            while (other != (Long) hash && n < 16 && others.startsWith(digits.substring(0, n))) {
                n++;
            }
        }
        return "#" + digits.substring(0, n);
    }

    private String showType(Tree t) {
        return switch (t.kind) {
            case 'j' -> "int";
            case '>' -> "(" + showType(t.one) + " -> " + showType(t.two) + ")";
            default -> t.ref.equals(SELF) ? "." : ref(t.ref);
        };
    }

    private String showTerm(Tree t, int out) {
        switch (t.kind) {
            case 'i':
                return String.valueOf(t.a);
            case 'v':
                return "x" + (out - 1 - t.a);
            case 'f':
                return "(x" + out + ": " + showType(t.one) + " => " + showTerm(t.two, out + 1) + ")";
            case 'a':
                return showTerm(t.one, out) + "(" + showTerm(t.two, out) + ")";
            case 'o':
                return "(" + showTerm(t.one, out) + " " + "+-*<=".charAt(t.a) + " " + showTerm(t.two, out) + ")";
            case '?':
                return "(" + showTerm(t.one, out) + " ? " + showTerm(t.two, out) + " : "
                    + showTerm(t.more.get(0), out) + ")";
            case 'l':
                return "(x" + out + " = " + showTerm(t.one, out) + "; " + showTerm(t.two, out + 1) + ")";
            case 'r':
                return ref(t.ref);
            case 'm':
                return ref(t.ref) + ".c" + t.b + (t.one == null ? "" : "(" + showTerm(t.one, out) + ")");
            default:
                StringBuilder text = new StringBuilder("(" + showTerm(t.one, out));
                for (int i = 0; i < t.more.size(); i++) {
                    Def data = made.get((Long) t.ref);
                    boolean binds = data.isData && i < data.constructors.size() && data.constructors.get(i) != null;
                    text.append(" | c" + i + (binds ? " x" + out : "") + " => "
                        + showTerm(t.more.get(i), binds ? out + 1 : out));
                }
                return text + ")";
        }
    }

    int writeTerm(int name) {
        Def def = made.get(need(name));
        if (!def.isData) {
            return put(showTerm(def.term, 0));
        }
        List<String> parts = new ArrayList<>();
        for (Tree c : def.constructors) {
            parts.add("c" + parts.size() + (c == null ? "" : " " + showType(c)));
        }
        return put(String.join(" | ", parts));
    }

    int writeType(int name) {
        return put(showType(made.get(needTerm(name)).type));
    }

    float namedShare() {
        if (made.isEmpty()) {
            throw new ArithmeticException();
        }
        return (float) new HashSet<>(names().values()).size() / (float) made.size();
    }

    double meanNeeded() {
        Set<Long> named = new HashSet<>(names().values());
        if (named.isEmpty()) {
            throw new ArithmeticException();
        }
        int sum = 0;
        for (long hash : named) {
            sum += neededBy(hash).size();
        }
        return (double) sum / (double) named.size();
    }

    char lineAt(int index) {
        if (index < 0 || index >= line.length()) {
            throw new IndexOutOfBoundsException();
        }
        return line.charAt(index);
    }

    int definitions() {
        return made.size();
    }

    int patches() {
        return patchList.size();
    }

    int commits() {
        return commitNames.size();
    }

    int tests() {
        return testCount;
    }

    long traffic() {
        return sent;
    }

    long hashAnew(int name) {
        return anew().get(need(name));
    }

    boolean isSound() {
        return anew().entrySet().stream().allMatch(e -> e.getKey().equals(e.getValue()))
            && made.values().stream().allMatch(this::isTyped);
    }
}
