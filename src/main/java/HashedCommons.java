import java.util.ArrayList;
import java.util.NoSuchElementException;

/**
 * A commons of code that is kept by what it says: definitions have hashes of their structure, names
 * stand apart from them. README.md tells how the parts work together.
 */
public final class HashedCommons {
    private static final int NAMES = 26;
    private static final int MOST_NODES = 300;
    private static final int MOST_DEPTH = 20;
    private static final int MOST_WEIGHT = 200;
    private static final int MOST_VARIABLE = 30;
    private static final int MOST_CONSTRUCTORS = 4;
    private static final int OPERATORS = 5;
    private static final int MOST_STAGED = 8;
    private static final int MOST_PATCHES = 20;
    private static final int MOST_BRANCHES = 5;
    private static final int MOST_COMMITS = 40;
    private static final int MOST_BEGUN = 300;
    private static final int MOST_UNDER_WAY = 25;
    private static final int MACHINES = 3;
    private static final int MOST_JOBS = 30;
    private static final int LINE = 200;
    private static final int HASH_DIGITS = 16;

    /** No document limit: guards the recursions over nodes, which are at most MOST_DEPTH deep. */
    private static final int DEEPEST = 40;
    /** No document limit: guards what is kept; no run that the document allows comes near it. */
    private static final int MOST_DEFINITIONS = 50_000;
    /** No document limit: stands far above the steps that 300 beginnings of 200 nodes can take. */
    private static final int MOST_STEPS = 1_000_000;
    private static final int MOST_FRAMES = 600;
    private static final int BUCKETS = 256;

    private static final int NONE = -1;
    private static final char NOTHING = '-';
    private static final char TYPE_SORT = 'T';
    private static final char TERM_SORT = 't';
    private static final char BRANCH_SORT = 'B';
    private static final char CONSTRUCTOR_SORT = 'C';
    private static final long ROW_START = -3750763034362895579L;
    private static final long ROW_FACTOR = 1099511628211L;

    private final Nodes nodes;
    private final Groups groups;
    private final Checker checker;
    private final Codebase codebase;
    private final Branches branches;
    private final Staging staging;
    private final Patches patches;
    private final Carrier carrier;
    private final Worker worker;
    private final Writer writer;
    private final Definition[] before;
    private final Definition[] jobDefinitions;
    private final int[] jobMachines;
    private final char[] jobStates;
    private int jobCount;
    private int downMachines;
    private int testCount;
    private long sent;

    public HashedCommons() {
        nodes = new Nodes();
        groups = new Groups(nodes);
        checker = new Checker(nodes);
        codebase = new Codebase();
        branches = new Branches();
        staging = new Staging(nodes, groups, checker, codebase, branches);
        patches = new Patches(codebase);
        carrier = new Carrier(groups, checker, codebase, branches);
        worker = new Worker(nodes);
        writer = new Writer(nodes, codebase, branches);
        before = new Definition[NAMES];
        jobDefinitions = new Definition[MOST_JOBS];
        jobMachines = new int[MOST_JOBS];
        jobStates = new char[MOST_JOBS];
    }

    // Nodes and staging

    public int node(char kind, int a, int b, int c) throws IllegalArgumentException, IllegalStateException {
        if (!nodes.fits(kind, a, b, c)) {
            throw new IllegalArgumentException("no such kind, or an operand is not as told for it");
        }
        int node = nodes.tell(kind, a, b, c);
        if (node == NONE) {
            throw new IllegalStateException("too many nodes, too deep or too heavy");
        }
        return node;
    }

    public int stage(int name, int type, int term)
        throws IllegalArgumentException, NoSuchElementException, UnsupportedOperationException, IllegalStateException {
        requireName(name);
        requireNode(type);
        requireNode(term);
        if (nodes.sortAt(type) != TYPE_SORT || nodes.sortAt(term) != TERM_SORT) {
            throw new UnsupportedOperationException("a type and a term are needed");
        }
        requirePlaceToStage(name);
        return staging.put(name, false, type, term).stagedCount();
    }

    public int stageData(int name, boolean isUnique, int constructor)
        throws IllegalArgumentException, NoSuchElementException, UnsupportedOperationException, IllegalStateException {
        requireName(name);
        requireNode(constructor);
        if (nodes.sortAt(constructor) != CONSTRUCTOR_SORT) {
            throw new UnsupportedOperationException("a constructor is needed");
        }
        requirePlaceToStage(name);
        staging.put(name, true, NONE, constructor);
        if (isUnique) {
            staging.makeUnique();
        }
        return staging.stagedCount();
    }

    public int unstage() {
        int staged = staging.stagedCount();
        staging.clear();
        return staged;
    }

    public int define() throws IllegalStateException, UnsupportedOperationException {
        if (staging.stagedCount() == 0 || !staging.areNamesFree()) {
            throw new IllegalStateException("nothing is staged, or a name is not free");
        }
        requireNoFault();
        int fresh = staging.settle();
        staging.giveNames();
        staging.clear();
        return fresh;
    }

    public int update() throws IllegalStateException, UnsupportedOperationException {
        if (staging.stagedCount() == 0 || !staging.haveNamesTheirKind() || patches.isFull()) {
            throw new IllegalStateException("nothing is staged, a name does not suit, or there are too many patches");
        }
        requireNoFault();
        staging.settle();
        staging.noteChanges();
        staging.giveNames();
        int carried = carrier.carryAlong();
        patches.addChanges();
        for (int name = 0; name < NAMES; name++) {
            Definition given = branches.at(name);
            if (given != null && given.became != null && (given.isCarried || !staging.isStaged(name))) {
                branches.give(name, given.became);
            }
        }
        codebase.forgetChanges();
        staging.clear();
        return carried;
    }

    public char fault() {
        return staging.lookOver();
    }

    public int faultName() throws NoSuchElementException {
        if (staging.lookOver() == NOTHING) {
            throw new NoSuchElementException("there is no fault");
        }
        return staging.nameOfFault();
    }

    public int todo() {
        return carrier.todoCount();
    }

    public int todoAt(int index) throws IndexOutOfBoundsException {
        int name = carrier.todoName(index);
        if (name == NONE) {
            throw new IndexOutOfBoundsException("no such name to do");
        }
        return name;
    }

    // Names and definitions

    public char kindOf(int name) throws IllegalArgumentException {
        requireName(name);
        Definition definition = branches.at(name);
        if (definition == null) {
            return NOTHING;
        }
        return definition.isData ? 'd' : 't';
    }

    public long hash(int name) throws IllegalArgumentException, NoSuchElementException {
        return definitionOf(name).hash;
    }

    public long hashAnew(int name) throws IllegalArgumentException, NoSuchElementException {
        Definition definition = definitionOf(name);
        codebase.beginMarks();
        codebase.mark(definition);
        codebase.sweep();
        codebase.hashMarkedAnew(groups);
        return definition.anew;
    }

    public boolean needs(int name, int other) throws IllegalArgumentException, NoSuchElementException {
        requireName(name);
        requireName(other);
        Definition definition = definitionOf(name);
        Definition wanted = definitionOf(other);
        codebase.markAllNeededBy(definition);
        return codebase.isMarked(wanted);
    }

    public int needed(int name) throws IllegalArgumentException, NoSuchElementException {
        codebase.markAllNeededBy(definitionOf(name));
        return codebase.markedCount();
    }

    public int alias(int name, int other) throws IllegalArgumentException, NoSuchElementException {
        requireName(name);
        requireName(other);
        Definition definition = definitionOf(name);
        branches.give(other, definition);
        return branches.namesOf(definition);
    }

    public int unname(int name) throws IllegalArgumentException, NoSuchElementException {
        Definition definition = definitionOf(name);
        branches.give(name, null);
        return branches.namesOf(definition);
    }

    public int definitions() {
        return codebase.keptCount();
    }

    public int collect() {
        codebase.beginMarks();
        branches.markAll(codebase);
        patches.markAll();
        for (int job = 0; job < jobCount; job++) {
            if (jobStates[job] != 'd') {
                codebase.mark(jobDefinitions[job]);
            }
        }
        codebase.sweep();
        return codebase.dropUnmarked();
    }

    // Patches

    public int patches() {
        return patches.patchCount();
    }

    public int patchSize(int patch) throws NoSuchElementException {
        requirePatch(patch);
        return patches.sizeOf(patch);
    }

    public int apply(int patch) throws NoSuchElementException {
        requirePatch(patch);
        patches.noteChanges(patch);
        for (int name = 0; name < NAMES; name++) {
            before[name] = branches.at(name);
            takeWhatItBecame(name);
        }
        carrier.carryAlong();
        int changed = 0;
        for (int name = 0; name < NAMES; name++) {
            Definition given = branches.at(name);
            if (given != null && given.isCarried) {
                takeWhatItBecame(name);
            }
            changed += branches.at(name) == before[name] ? 0 : 1;
        }
        codebase.forgetChanges();
        return changed;
    }

    public int compose(int patch, int other) throws NoSuchElementException, IllegalStateException {
        requirePatch(patch);
        requirePatch(other);
        requirePlaceForPatch();
        return patches.addComposed(patch, other);
    }

    public int mergePatches(int patch, int other) throws NoSuchElementException, IllegalStateException {
        requirePatch(patch);
        requirePatch(other);
        requirePlaceForPatch();
        return patches.addMerged(patch, other);
    }

    // Branches and commits

    public int commit() throws IllegalStateException {
        requirePlaceForCommit();
        return branches.recordCommit(NONE);
    }

    public int branch() throws IllegalStateException {
        int made = branches.addBranch();
        if (made == NONE) {
            throw new IllegalStateException("there are too many branches");
        }
        return made;
    }

    public int goTo(int branch) throws NoSuchElementException {
        requireBranch(branch);
        return branches.enter(branch);
    }

    public int merge(int branch) throws NoSuchElementException, IllegalArgumentException, IllegalStateException {
        requireBranch(branch);
        if (branches.isPresent(branch)) {
            throw new IllegalArgumentException("it is the present branch");
        }
        requirePlaceForCommit();
        return branches.mergeIn(branch);
    }

    public int conflictAt(int index) throws IndexOutOfBoundsException {
        int name = branches.conflictName(index);
        if (name == NONE) {
            throw new IndexOutOfBoundsException("no such conflict");
        }
        return name;
    }

    public int ancestor(int commit, int other) throws NoSuchElementException, UnsupportedOperationException {
        if (!branches.hasCommit(commit) || !branches.hasCommit(other)) {
            throw new NoSuchElementException("no such commit");
        }
        int common = branches.commonAncestor(commit, other);
        if (common == NONE) {
            throw new UnsupportedOperationException("there is no common ancestor");
        }
        return common;
    }

    public int commits() {
        return branches.commitCount();
    }

    public int hashIn(int commit, int name) throws NoSuchElementException, IllegalArgumentException {
        if (!branches.hasCommit(commit)) {
            throw new NoSuchElementException("no such commit");
        }
        requireName(name);
        Definition definition = branches.atCommit(commit, name);
        if (definition == null) {
            throw new NoSuchElementException("the name has no definition in the commit");
        }
        return (int) (definition.hash >>> 32);
    }

    // Working out, tests and jobs

    public char work(int name) throws IllegalArgumentException, NoSuchElementException, UnsupportedOperationException {
        return kindOfValue(worker.workOut(termOf(name)));
    }

    public int writeValue(int name)
        throws IllegalArgumentException, NoSuchElementException, UnsupportedOperationException {
        Cell value = worker.workOut(termOf(name));
        writer.clear();
        writer.value(value);
        return writer.lineLength();
    }

    public char test(int name) throws IllegalArgumentException, NoSuchElementException, UnsupportedOperationException {
        Definition definition = definitionOf(name);
        if (definition.isData || nodes.kindAt(definition.typeNode) != 'j') {
            throw new UnsupportedOperationException("it is no int");
        }
        if (definition.tested == 0) {
            testCount++;
            Cell value = worker.workOut(definition);
            definition.tested = value == null ? 'l' : value.number != 0 ? 'p' : 'n';
        }
        return definition.tested;
    }

    public int tests() {
        return testCount;
    }

    public int job(int machine, int name)
        throws IllegalArgumentException, NoSuchElementException, UnsupportedOperationException, IllegalStateException {
        requireMachine(machine);
        Definition definition = termOf(name);
        if (isDown(machine) || jobCount >= MOST_JOBS) {
            throw new IllegalStateException("the machine is down, or there are too many jobs");
        }
        jobDefinitions[jobCount] = definition;
        jobMachines[jobCount] = machine;
        jobStates[jobCount] = 'w';
        jobCount++;
        return jobCount - 1;
    }

    public int goOn(int machine) throws IllegalArgumentException, IllegalStateException, NoSuchElementException {
        requireMachine(machine);
        if (isDown(machine)) {
            throw new IllegalStateException("the machine is down");
        }
        int job = firstWaiting(machine);
        if (job == NONE) {
            throw new NoSuchElementException("no job waits on the machine");
        }
        Definition definition = jobDefinitions[job];
        if (definition.outcome == 0) {
            markReachable(definition);
            sent += codebase.sendMarked(1 << machine);
            Cell value = worker.workOut(definition);
            definition.outcome = kindOfValue(value);
            definition.number = value == null ? 0 : value.number;
        }
        jobStates[job] = 'd';
        return job;
    }

    public char jobState(int job) throws NoSuchElementException {
        requireJob(job);
        return jobStates[job];
    }

    public char outcome(int job) throws NoSuchElementException, IllegalStateException {
        requireJob(job);
        requireDone(job);
        return jobDefinitions[job].outcome;
    }

    public int result(int job) throws NoSuchElementException, IllegalStateException, UnsupportedOperationException {
        requireJob(job);
        requireDone(job);
        if (jobDefinitions[job].outcome != 'i') {
            throw new UnsupportedOperationException("no int came of the job");
        }
        return jobDefinitions[job].number;
    }

    public int retry(int job, int machine)
        throws NoSuchElementException, IllegalArgumentException, IllegalStateException {
        requireJob(job);
        requireMachine(machine);
        if (jobStates[job] != 'f' || isDown(machine)) {
            throw new IllegalStateException("the job has not failed, or the machine is down");
        }
        jobStates[job] = 'w';
        jobMachines[job] = machine;
        return waitingOn(machine);
    }

    public int down(int machine) throws IllegalArgumentException, IllegalStateException {
        requireMachine(machine);
        if (isDown(machine)) {
            throw new IllegalStateException("the machine is down");
        }
        int failing = waitingOn(machine);
        for (int job = 0; job < jobCount; job++) {
            if (jobStates[job] == 'w' && jobMachines[job] == machine) {
                jobStates[job] = 'f';
            }
        }
        downMachines |= 1 << machine;
        codebase.emptyMachine(1 << machine);
        return failing;
    }

    public boolean up(int machine) throws IllegalArgumentException {
        requireMachine(machine);
        boolean wasDown = isDown(machine);
        downMachines &= ~(1 << machine);
        return wasDown;
    }

    public int lacking(int machine, int name) throws IllegalArgumentException, NoSuchElementException {
        requireMachine(machine);
        markReachable(definitionOf(name));
        return codebase.markedWithout(1 << machine);
    }

    public long traffic() {
        return sent;
    }

    // Writing and counting

    public int writeTerm(int name) throws IllegalArgumentException, NoSuchElementException {
        Definition definition = definitionOf(name);
        writer.clear();
        writer.body(definition);
        return writer.lineLength();
    }

    public int writeType(int name)
        throws IllegalArgumentException, NoSuchElementException, UnsupportedOperationException {
        Definition definition = termOf(name);
        writer.clear();
        writer.toldType(definition);
        return writer.lineLength();
    }

    public char lineAt(int index) throws IndexOutOfBoundsException {
        if (index < 0 || index >= writer.lineLength()) {
            throw new IndexOutOfBoundsException("no such character");
        }
        return writer.signAt(index);
    }

    public boolean isSound() {
        codebase.beginMarks();
        codebase.markKept();
        codebase.hashMarkedAnew(groups);
        return codebase.areMarkedSound(checker);
    }

    public float namedShare() throws ArithmeticException {
        int all = codebase.keptCount();
        if (all == 0) {
            throw new ArithmeticException("there are no definitions");
        }
        return (float) branches.namedCount() / (float) all;
    }

    public double meanNeeded() throws ArithmeticException {
        int named = branches.namedCount();
        if (named == 0) {
            throw new ArithmeticException("no definition has a name");
        }
        int sum = 0;
        for (int name = 0; name < NAMES; name++) {
            Definition definition = branches.at(name);
            if (definition != null && branches.lowestNameOf(definition) == name) {
                codebase.markAllNeededBy(definition);
                sum += codebase.markedCount();
            }
        }
        return (double) sum / (double) named;
    }

    // What the methods above ask for

    private static boolean isName(int name) {
        return name >= 0 && name < NAMES;
    }

    private static void requireName(int name) {
        if (!isName(name)) {
            throw new IllegalArgumentException("no such name");
        }
    }

    private void requireNode(int node) {
        if (!nodes.has(node)) {
            throw new NoSuchElementException("no such node");
        }
    }

    private void requirePlaceToStage(int name) {
        if (!staging.hasPlaceFor(name)) {
            throw new IllegalStateException("too many others are staged");
        }
    }

    private void requireNoFault() {
        if (staging.lookOver() != NOTHING) {
            throw new UnsupportedOperationException("what is staged has a fault");
        }
    }

    private void requirePatch(int patch) {
        if (patch < 0 || patch >= patches.patchCount()) {
            throw new NoSuchElementException("no such patch");
        }
    }

    private void requirePlaceForPatch() {
        if (patches.isFull()) {
            throw new IllegalStateException("there are too many patches");
        }
    }

    private void requirePlaceForCommit() {
        if (branches.commitCount() >= MOST_COMMITS) {
            throw new IllegalStateException("there are too many commits");
        }
    }

    private void requireBranch(int branch) {
        if (!branches.hasBranch(branch)) {
            throw new NoSuchElementException("no such branch");
        }
    }

    private static void requireMachine(int machine) {
        if (machine < 0 || machine >= MACHINES) {
            throw new IllegalArgumentException("no such machine");
        }
    }

    private void requireJob(int job) {
        if (job < 0 || job >= jobCount) {
            throw new NoSuchElementException("no such job");
        }
    }

    private void requireDone(int job) {
        if (jobStates[job] != 'd') {
            throw new IllegalStateException("the job is not done");
        }
    }

    private Definition definitionOf(int name) {
        requireName(name);
        Definition definition = branches.at(name);
        if (definition == null) {
            throw new NoSuchElementException("no definition has this name");
        }
        return definition;
    }

    private Definition termOf(int name) {
        Definition definition = definitionOf(name);
        if (definition.isData) {
            throw new UnsupportedOperationException("it is data");
        }
        return definition;
    }

    private void takeWhatItBecame(int name) {
        Definition definition = branches.at(name);
        if (definition != null && definition.became != null) {
            branches.give(name, definition.became);
        }
    }

    private void markReachable(Definition definition) {
        codebase.beginMarks();
        codebase.mark(definition);
        codebase.sweep();
    }

    private static char kindOfValue(Cell value) {
        return value == null ? 'l' : value.kind;
    }

    private boolean isDown(int machine) {
        return (downMachines >> machine & 1) != 0;
    }

    private int firstWaiting(int machine) {
        for (int job = 0; job < jobCount; job++) {
            if (jobStates[job] == 'w' && jobMachines[job] == machine) {
                return job;
            }
        }
        return NONE;
    }

    private int waitingOn(int machine) {
        int waiting = 0;
        for (int job = 0; job < jobCount; job++) {
            waiting += jobStates[job] == 'w' && jobMachines[job] == machine ? 1 : 0;
        }
        return waiting;
    }

    /** The nodes that were told, each with its depth, its weight and the names that stand in it. */
    private static final class Nodes {
        private final char[] kinds = new char[MOST_NODES];
        private final int[] as = new int[MOST_NODES];
        private final int[] bs = new int[MOST_NODES];
        private final int[] cs = new int[MOST_NODES];
        private final int[] depths = new int[MOST_NODES];
        private final int[] weights = new int[MOST_NODES];
        private final int[] dataNames = new int[MOST_NODES];
        private final int[] termNames = new int[MOST_NODES];
        private int count;

        boolean has(int node) {
            return node >= 0 && node < count;
        }

        char kindAt(int node) {
            return node >= 0 && node < count ? kinds[node] : NOTHING;
        }

        int aAt(int node) {
            return node >= 0 && node < count ? as[node] : NONE;
        }

        int bAt(int node) {
            return node >= 0 && node < count ? bs[node] : NONE;
        }

        int cAt(int node) {
            return node >= 0 && node < count ? cs[node] : NONE;
        }

        /** The names of data in a node and its operands, a bit for each. */
        int dataNamesAt(int node) {
            return node >= 0 && node < count ? dataNames[node] : 0;
        }

        int termNamesAt(int node) {
            return node >= 0 && node < count ? termNames[node] : 0;
        }

        char sortAt(int node) {
            switch (kindAt(node)) {
                case NOTHING:
                    return NOTHING;
                case 'j':
                case '>':
                case 'd':
                    return TYPE_SORT;
                case 'b':
                    return BRANCH_SORT;
                case '+':
                    return CONSTRUCTOR_SORT;
                default:
                    return TERM_SORT;
            }
        }

        /** A letter for each operand that says what it must be; no letters if there is no such kind. */
        private static String rolesOf(char kind) {
            switch (kind) {
                case 'j':
                case 'i':
                    return "---";
                case '>':
                    return "TT-";
                case 'd':
                case 'r':
                    return "n--";
                case 'v':
                    return "v--";
                case 'f':
                    return "Tt-";
                case 'a':
                case 'l':
                    return "tt-";
                case 'o':
                    return "tto";
                case '?':
                    return "ttt";
                case 'm':
                    return "nku";
                case 'c':
                    return "ntB";
                case 'b':
                    return "tX-";
                case '+':
                    return "UY-";
                default:
                    return "";
            }
        }

        boolean fits(char kind, int a, int b, int c) {
            String roles = rolesOf(kind);
            return roles.length() == 3 && fitsRole(roles.charAt(0), a) && fitsRole(roles.charAt(1), b)
                && fitsRole(roles.charAt(2), c);
        }

        private boolean fitsRole(char role, int operand) {
            switch (role) {
                case TYPE_SORT:
                case TERM_SORT:
                case BRANCH_SORT:
                    return sortAt(operand) == role;
                case 'U':
                    return operand == NONE || sortAt(operand) == TYPE_SORT;
                case 'u':
                    return operand == NONE || sortAt(operand) == TERM_SORT;
                case 'X':
                    return operand == NONE || sortAt(operand) == BRANCH_SORT;
                case 'Y':
                    return operand == NONE || sortAt(operand) == CONSTRUCTOR_SORT;
                case 'n':
                    return isName(operand);
                case 'v':
                    return operand >= 0 && operand <= MOST_VARIABLE;
                case 'k':
                    return operand >= 0 && operand < MOST_CONSTRUCTORS;
                case 'o':
                    return operand >= 0 && operand < OPERATORS;
                default:
                    return true;
            }
        }

        /** How much deeper a node is than an operand with this role, NONE if that is no node. */
        private static int stepOf(char role) {
            switch (role) {
                case TYPE_SORT:
                case TERM_SORT:
                case BRANCH_SORT:
                case 'U':
                case 'u':
                    return 1;
                case 'X':
                case 'Y':
                    return 0;
                default:
                    return NONE;
            }
        }

        /** Tells a node that fits; answers NONE if there are too many, or it is too deep or too heavy. */
        int tell(char kind, int a, int b, int c) {
            String roles = rolesOf(kind);
            if (count >= MOST_NODES || roles.length() != 3) {
                return NONE;
            }
            int depth = 1;
            int weight = 1;
            int data = kind == 'd' || kind == 'm' || kind == 'c' ? 1 << a : 0;
            int terms = kind == 'r' ? 1 << a : 0;
            for (int i = 0; i < 3; i++) {
                int operand = i == 0 ? a : i == 1 ? b : c;
                int step = stepOf(roles.charAt(i));
                if (step == NONE || !has(operand)) {
                    continue;
                }
                depth = Math.max(depth, depths[operand] + step);
                weight += weights[operand];
                data |= dataNames[operand];
                terms |= termNames[operand];
            }
            if (depth > MOST_DEPTH || weight > MOST_WEIGHT) {
                return NONE;
            }
            kinds[count] = kind;
            as[count] = a;
            bs[count] = b;
            cs[count] = c;
            depths[count] = depth;
            weights[count] = weight;
            dataNames[count] = data;
            termNames[count] = terms;
            count++;
            return count - 1;
        }
    }

    /**
     * A definition, or a draft of one: nodes, and what the names in them mean. It stays when it is
     * dropped from the codebase, since tests, jobs and machines keep what they know of its hash.
     */
    private static final class Definition {
        /** What the names mean, data first, then terms; data itself stands for itself within it. */
        private final Definition[] meant = new Definition[2 * NAMES];
        private boolean isData;
        private int own;
        private int typeNode;
        private int termNode;
        private long hash;
        private long anew;
        private int place;
        private boolean isGrouped;
        private boolean isKept;
        private int mark;
        private int machines;
        private char tested;
        private char outcome;
        private int number;
        /** What its hash becomes by what is going on. */
        private Definition became;
        private boolean isCarried;
        private Definition follow;
        /** For a draft what is kept in its place; for what is being copied its copy. */
        private Definition standIn;
        private Definition next;

        Definition dataAt(int name) {
            return name >= 0 && name < NAMES ? meant[name] : null;
        }

        Definition termAt(int name) {
            return name >= 0 && name < NAMES ? meant[NAMES + name] : null;
        }

        /** Whether another one, or itself, is needed at first hand; data do not need themselves. */
        boolean uses(Definition other) {
            if (isData && other == this) {
                return false;
            }
            for (int i = 0; i < meant.length; i++) {
                if (meant[i] == other) {
                    return true;
                }
            }
            return false;
        }

        boolean usesChanged() {
            for (int i = 0; i < meant.length; i++) {
                if (meant[i] != null && meant[i].became != null) {
                    return true;
                }
            }
            return false;
        }

        void copyReplaced(Definition from) {
            isData = from.isData;
            own = from.own;
            typeNode = from.typeNode;
            termNode = from.termNode;
            standIn = null;
            for (int i = 0; i < meant.length; i++) {
                meant[i] = replaced(from.meant[i]);
            }
        }

        private static Definition replaced(Definition meaning) {
            if (meaning == null) {
                return null;
            }
            if (meaning.standIn != null) {
                return meaning.standIn;
            }
            return meaning.became != null ? meaning.became : meaning;
        }

        void takeStandIns() {
            for (int i = 0; i < meant.length; i++) {
                if (meant[i] != null && meant[i].standIn != null) {
                    meant[i] = meant[i].standIn;
                }
            }
        }
    }

    /** Parts at most eight definitions into groups that need one another, and hashes these. */
    private static final class Groups {
        private final Nodes nodes;
        private final Definition[] items = new Definition[MOST_STAGED];
        private final int[] reach = new int[MOST_STAGED];
        private final Definition[] members = new Definition[MOST_STAGED];
        private final long[] keys = new long[MOST_STAGED];
        private int itemCount;
        private int memberCount;
        private int left;

        Groups(Nodes nodes) {
            this.nodes = nodes;
        }

        void clear() {
            itemCount = 0;
            memberCount = 0;
            left = 0;
        }

        void add(Definition definition) {
            if (itemCount < MOST_STAGED) {
                items[itemCount] = definition;
                itemCount++;
            }
        }

        int size() {
            return memberCount;
        }

        Definition member(int index) {
            return index >= 0 && index < memberCount ? members[index] : null;
        }

        void setMember(int index, Definition definition) {
            if (index >= 0 && index < memberCount) {
                members[index] = definition;
            }
        }

        /** Finds which items need which, over others or not, among themselves. */
        void connect() {
            for (int i = 0; i < itemCount; i++) {
                reach[i] = 0;
                for (int j = 0; j < itemCount; j++) {
                    reach[i] |= items[i].uses(items[j]) ? 1 << j : 0;
                }
            }
            for (int over = 0; over < itemCount; over++) {
                for (int i = 0; i < itemCount; i++) {
                    reach[i] |= (reach[i] >> over & 1) != 0 ? reach[over] : 0;
                }
            }
            left = (1 << itemCount) - 1;
        }

        /** Makes the members those of a group that needs no group which is still left. */
        boolean nextGroup() {
            for (int i = 0; i < itemCount; i++) {
                int group = groupOf(i);
                if ((left >> i & 1) != 0 && (reach[i] & left & ~group) == 0) {
                    left &= ~group;
                    gather(group);
                    return true;
                }
            }
            return false;
        }

        private int groupOf(int index) {
            int group = 1 << index;
            for (int other = 0; other < itemCount; other++) {
                if ((reach[index] >> other & 1) != 0 && (reach[other] >> index & 1) != 0) {
                    group |= 1 << other;
                }
            }
            return group;
        }

        private void gather(int group) {
            memberCount = 0;
            for (int i = 0; i < itemCount; i++) {
                if ((group >> i & 1) != 0) {
                    members[memberCount] = items[i];
                    memberCount++;
                }
            }
        }

        /** Makes one definition the only member, without a look at what it needs. */
        void setOnly(Definition definition) {
            members[0] = definition;
            memberCount = 1;
        }

        /**
         * Hashes the members, which stand in the order of their places then. Those with the same rows
         * keep the order in which they were gathered.
         */
        void hashMembers() {
            Definition only = memberCount == 1 ? members[0] : null;
            if (only != null && !only.uses(only)) {
                only.place = 0;
                only.anew = rowOf(ROW_START, only, false);
                return;
            }
            setGrouped(true);
            for (int i = 0; i < memberCount; i++) {
                Definition member = members[i];
                long key = rowOf(ROW_START, member, true);
                int at = i;
                while (at > 0 && keys[at - 1] > key) {
                    keys[at] = keys[at - 1];
                    members[at] = members[at - 1];
                    at--;
                }
                keys[at] = key;
                members[at] = member;
            }
            setPlaces();
            long whole = mix(mix(ROW_START, 32), memberCount);
            for (int i = 0; i < memberCount; i++) {
                whole = rowOf(whole, members[i], false);
            }
            setGrouped(false);
            for (int i = 0; i < memberCount; i++) {
                members[i].anew = mix(mix(mix(ROW_START, 33), whole), i);
            }
        }

        private void setGrouped(boolean isGrouped) {
            for (int i = 0; i < memberCount; i++) {
                members[i].isGrouped = isGrouped;
            }
        }

        private void setPlaces() {
            for (int i = 0; i < memberCount; i++) {
                members[i].place = i;
            }
        }

        long hashOfData(Definition data) {
            return dataRow(ROW_START, data);
        }

        private static long mix(long row, long number) {
            return ((row << 5 | row >>> 59) ^ number) * ROW_FACTOR;
        }

        private long rowOf(long row, Definition definition, boolean isPlaceless) {
            if (definition.isData) {
                return dataRow(row, definition);
            }
            long typed = typeRow(mix(row, 31), definition.typeNode, definition, 0);
            return termRow(typed, definition.termNode, definition, isPlaceless, 0);
        }

        private long dataRow(long start, Definition data) {
            int constructors = 0;
            int at = data.termNode;
            for (int i = 0; i < MOST_WEIGHT && at >= 0; i++) {
                constructors++;
                at = nodes.bAt(at);
            }
            long row = mix(mix(mix(start, 30), data.own), constructors);
            at = data.termNode;
            for (int i = 0; i < constructors; i++) {
                int argument = nodes.aAt(at);
                row = argument < 0 ? mix(row, 0) : typeRow(mix(row, 1), argument, data, 0);
                at = nodes.bAt(at);
            }
            return row;
        }

        private long typeRow(long row, int node, Definition in, int depth) {
            if (depth > DEEPEST) {
                return row;
            }
            switch (nodes.kindAt(node)) {
                case '>':
                    long from = typeRow(mix(row, 2), nodes.aAt(node), in, depth + 1);
                    return typeRow(from, nodes.bAt(node), in, depth + 1);
                case 'd':
                    Definition data = in.dataAt(nodes.aAt(node));
                    return in.isData && data == in ? mix(row, 4) : mix(mix(row, 3), anewOf(data));
                default:
                    return mix(row, 1);
            }
        }

        private static long anewOf(Definition definition) {
            return definition == null ? 0 : definition.anew;
        }

        private long termRow(long row, int node, Definition in, boolean isPlaceless, int depth) {
            if (depth > DEEPEST) {
                return row;
            }
            int a = nodes.aAt(node);
            int b = nodes.bAt(node);
            int c = nodes.cAt(node);
            long next;
            switch (nodes.kindAt(node)) {
                case 'i':
                    return mix(mix(row, 11), a);
                case 'v':
                    return mix(mix(row, 12), a);
                case 'f':
                    next = typeRow(mix(row, 13), a, in, depth + 1);
                    return termRow(next, b, in, isPlaceless, depth + 1);
                case 'a':
                    next = termRow(mix(row, 14), a, in, isPlaceless, depth + 1);
                    return termRow(next, b, in, isPlaceless, depth + 1);
                case 'o':
                    next = termRow(mix(mix(row, 15), c), a, in, isPlaceless, depth + 1);
                    return termRow(next, b, in, isPlaceless, depth + 1);
                case '?':
                    next = termRow(mix(row, 16), a, in, isPlaceless, depth + 1);
                    next = termRow(next, b, in, isPlaceless, depth + 1);
                    return termRow(next, c, in, isPlaceless, depth + 1);
                case 'l':
                    next = termRow(mix(row, 17), a, in, isPlaceless, depth + 1);
                    return termRow(next, b, in, isPlaceless, depth + 1);
                case 'r':
                    return nameRow(row, in.termAt(a), isPlaceless);
                case 'm':
                    next = mix(mix(mix(row, 20), anewOf(in.dataAt(a))), b);
                    return c < 0 ? next : termRow(next, c, in, isPlaceless, depth + 1);
                case 'c':
                    next = mix(mix(row, 21), anewOf(in.dataAt(a)));
                    next = termRow(next, b, in, isPlaceless, depth + 1);
                    return branchRows(next, c, in, isPlaceless, depth + 1);
                default:
                    return row;
            }
        }

        private static long nameRow(long row, Definition named, boolean isPlaceless) {
            if (named != null && named.isGrouped) {
                return mix(mix(row, 19), isPlaceless ? 0 : named.place);
            }
            return mix(mix(row, 18), anewOf(named));
        }

        private long branchRows(long row, int node, Definition in, boolean isPlaceless, int depth) {
            long next = row;
            int at = node;
            for (int i = 0; i < MOST_WEIGHT && at >= 0; i++) {
                next = termRow(next, nodes.aAt(at), in, isPlaceless, depth + 1);
                at = nodes.bAt(at);
            }
            return next;
        }
    }

    /** A type, a value or a variable that is bound; cells are made once and used again in each call. */
    private static final class Cell {
        private char kind;
        private int number;
        private int node;
        private Definition definition;
        /** From what a function type is, an argument that is had, the scope of a function, or what is bound. */
        private Cell inner;
        /** To what a function type is, or the scope outside of this one. */
        private Cell outer;
        private Cell after;

        Cell following(char nextKind) {
            if (after == null) {
                after = new Cell();
            }
            after.kind = nextKind;
            after.number = 0;
            after.node = NONE;
            after.definition = null;
            after.inner = null;
            after.outer = null;
            return after;
        }
    }

    /** Finds the types of terms. */
    private static final class Checker {
        private final Nodes nodes;
        private final Cell[] bound = new Cell[DEEPEST];
        private final Cell first = new Cell();
        private Cell last;

        Checker(Nodes nodes) {
            this.nodes = nodes;
            last = first;
        }

        boolean hasItsType(Definition term) {
            last = first;
            Cell told = typeOf(term.typeNode, term, 0);
            Cell found = infer(term.termNode, term, 0, 0);
            return isSame(told, found, 0);
        }

        private Cell typeOf(int node, Definition in, int depth) {
            if (depth > DEEPEST) {
                return null;
            }
            switch (nodes.kindAt(node)) {
                case 'j':
                    last = last.following('j');
                    return last;
                case '>':
                    Cell from = typeOf(nodes.aAt(node), in, depth + 1);
                    Cell to = typeOf(nodes.bAt(node), in, depth + 1);
                    last = last.following('>');
                    last.inner = from;
                    last.outer = to;
                    return last;
                case 'd':
                    last = last.following('d');
                    last.definition = in.dataAt(nodes.aAt(node));
                    return last;
                default:
                    return null;
            }
        }

        private Cell intType() {
            last = last.following('j');
            return last;
        }

        private Cell functionType(Cell from, Cell to) {
            if (from == null || to == null) {
                return null;
            }
            last = last.following('>');
            last.inner = from;
            last.outer = to;
            return last;
        }

        private Cell dataType(Definition data) {
            last = last.following('d');
            last.definition = data;
            return last;
        }

        /** What a function is to can be a long chain, so only what it is from is a recursion. */
        private static boolean isSame(Cell type, Cell other, int depth) {
            Cell one = type;
            Cell two = other;
            for (int i = 0; i < MOST_STEPS && depth <= DEEPEST && one != null && two != null; i++) {
                if (one == two) {
                    return true;
                }
                if (one.kind != two.kind) {
                    return false;
                }
                if (one.kind == 'd') {
                    return isData(one, two.definition);
                }
                if (one.kind != '>') {
                    return true;
                }
                if (!isSame(one.inner, two.inner, depth + 1)) {
                    return false;
                }
                one = one.outer;
                two = two.outer;
            }
            return false;
        }

        private static boolean isInt(Cell type) {
            return type != null && type.kind == 'j';
        }

        private static boolean isData(Cell type, Definition data) {
            return type != null && type.kind == 'd' && type.definition != null && data != null
                && type.definition.hash == data.hash;
        }

        /** Answers null if there is a fault. */
        private Cell infer(int node, Definition in, int binders, int depth) {
            if (depth > DEEPEST) {
                return null;
            }
            int a = nodes.aAt(node);
            int b = nodes.bAt(node);
            switch (nodes.kindAt(node)) {
                case 'i':
                    return intType();
                case 'v':
                    return a >= 0 && a < binders && binders <= bound.length ? bound[binders - 1 - a] : null;
                case 'f':
                    Cell from = typeOf(a, in, 0);
                    return functionType(from, inferInside(from, b, in, binders, depth + 1));
                case 'a':
                    return inferApplication(node, in, binders, depth + 1);
                case 'o':
                    boolean areInts = isInt(infer(a, in, binders, depth + 1));
                    areInts = areInts && isInt(infer(b, in, binders, depth + 1));
                    return areInts ? intType() : null;
                case '?':
                    return inferChoice(node, in, binders, depth + 1);
                case 'l':
                    return inferInside(infer(a, in, binders, depth + 1), b, in, binders, depth + 1);
                case 'r':
                    Definition named = in.termAt(a);
                    return named == null || named.isData ? null : typeOf(named.typeNode, named, 0);
                case 'm':
                    return inferConstructor(node, in, binders, depth + 1);
                case 'c':
                    return inferBranches(node, in, binders, depth + 1);
                default:
                    return null;
            }
        }

        private Cell inferInside(Cell type, int node, Definition in, int binders, int depth) {
            if (type == null || binders >= bound.length) {
                return null;
            }
            bound[binders] = type;
            return infer(node, in, binders + 1, depth);
        }

        private Cell inferApplication(int node, Definition in, int binders, int depth) {
            Cell function = infer(nodes.aAt(node), in, binders, depth);
            if (function == null || function.kind != '>') {
                return null;
            }
            Cell argument = infer(nodes.bAt(node), in, binders, depth);
            return isSame(function.inner, argument, 0) ? function.outer : null;
        }

        private Cell inferChoice(int node, Definition in, int binders, int depth) {
            if (!isInt(infer(nodes.aAt(node), in, binders, depth))) {
                return null;
            }
            Cell one = infer(nodes.bAt(node), in, binders, depth);
            Cell other = infer(nodes.cAt(node), in, binders, depth);
            return isSame(one, other, 0) ? one : null;
        }

        private Cell inferConstructor(int node, Definition in, int binders, int depth) {
            Definition data = in.dataAt(nodes.aAt(node));
            if (data == null) {
                return null;
            }
            int constructor = data.termNode;
            for (int i = 0; i < nodes.bAt(node) && constructor >= 0; i++) {
                constructor = nodes.bAt(constructor);
            }
            int argument = nodes.aAt(constructor);
            int given = nodes.cAt(node);
            if (constructor < 0 || (argument < 0) != (given < 0)) {
                return null;
            }
            if (given >= 0 && !isSame(typeOf(argument, data, 0), infer(given, in, binders, depth), 0)) {
                return null;
            }
            return dataType(data);
        }

        private Cell inferBranches(int node, Definition in, int binders, int depth) {
            Definition data = in.dataAt(nodes.aAt(node));
            if (data == null || !isData(infer(nodes.bAt(node), in, binders, depth), data)) {
                return null;
            }
            int branch = nodes.cAt(node);
            int constructor = data.termNode;
            Cell common = null;
            for (int i = 0; i < MOST_WEIGHT && branch >= 0 && constructor >= 0; i++) {
                int argument = nodes.aAt(constructor);
                int term = nodes.aAt(branch);
                Cell found = argument < 0 ? infer(term, in, binders, depth)
                    : inferInside(typeOf(argument, data, 0), term, in, binders, depth);
                if (found == null || common != null && !isSame(common, found, 0)) {
                    return null;
                }
                common = found;
                branch = nodes.bAt(branch);
                constructor = nodes.bAt(constructor);
            }
            return branch < 0 && constructor < 0 ? common : null;
        }
    }

    /**
     * All definitions that were ever made, by their hashes. In the list each one stands behind those
     * that it needs, and the members of a group stand together in the order of their places.
     */
    private static final class Codebase {
        private final ArrayList<Definition> all = new ArrayList<Definition>();
        private final Definition[] buckets = new Definition[BUCKETS];
        private int stamp;
        private int kept;

        int size() {
            return all.size();
        }

        Definition at(int index) {
            return index >= 0 && index < all.size() ? all.get(index) : null;
        }

        int keptCount() {
            return kept;
        }

        private static int bucketOf(long hash) {
            return (int) (hash ^ hash >>> 32) & BUCKETS - 1;
        }

        private Definition find(long hash) {
            Definition found = buckets[bucketOf(hash)];
            for (int i = 0; i < all.size() && found != null && found.hash != hash; i++) {
                found = found.next;
            }
            return found;
        }

        /** Keeps the members of a group that is hashed, each hash once; answers how many are new. */
        int settle(Groups groups) {
            int fresh = 0;
            for (int i = 0; i < groups.size(); i++) {
                Definition draft = groups.member(i);
                if (draft == null) {
                    continue;
                }
                draft.hash = draft.anew;
                Definition there = find(draft.hash);
                if (there == null) {
                    there = draft;
                    append(draft);
                } else {
                    draft.standIn = there;
                }
                if (!there.isKept) {
                    there.isKept = true;
                    kept++;
                    fresh++;
                }
            }
            for (int i = 0; i < groups.size(); i++) {
                Definition draft = groups.member(i);
                if (draft != null) {
                    draft.takeStandIns();
                }
            }
            return fresh;
        }

        private void append(Definition definition) {
            int bucket = bucketOf(definition.hash);
            definition.next = buckets[bucket];
            buckets[bucket] = definition;
            all.add(definition);
        }

        void beginMarks() {
            stamp++;
        }

        void mark(Definition definition) {
            if (definition != null) {
                definition.mark = stamp;
            }
        }

        boolean isMarked(Definition definition) {
            return definition != null && definition.mark == stamp;
        }

        private void markUsed(Definition definition) {
            for (int i = 0; i < definition.meant.length; i++) {
                Definition used = definition.meant[i];
                if (used != null && !(definition.isData && used == definition)) {
                    used.mark = stamp;
                }
            }
        }

        void markAllNeededBy(Definition definition) {
            stamp++;
            markUsed(definition);
            sweep();
        }

        void markKept() {
            for (int i = 0; i < all.size(); i++) {
                if (all.get(i).isKept) {
                    all.get(i).mark = stamp;
                }
            }
        }

        /** Whether a group, or a definition that is in none, begins at an index. */
        boolean isStart(int index) {
            return index >= 0 && index < all.size() && all.get(index).place == 0;
        }

        /** The index of the last one of the group that begins at an index. */
        int groupEnd(int start) {
            int end = start;
            for (int i = start + 1; i < all.size() && !isStart(i); i++) {
                end = i;
            }
            return end;
        }

        /** One way through the list is enough: whatever is needed stands ahead, or in the same group. */
        void sweep() {
            int end = all.size() - 1;
            boolean isReached = false;
            for (int start = all.size() - 1; start >= 0; start--) {
                isReached = isReached || all.get(start).mark == stamp;
                if (!isStart(start)) {
                    continue;
                }
                for (int i = start; i <= end && isReached; i++) {
                    markUsed(all.get(i));
                }
                end = start - 1;
                isReached = false;
            }
        }

        int markedCount() {
            int count = 0;
            for (int i = 0; i < all.size(); i++) {
                count += all.get(i).mark == stamp ? 1 : 0;
            }
            return count;
        }

        int markedWithout(int machineBit) {
            int count = 0;
            for (int i = 0; i < all.size(); i++) {
                Definition definition = all.get(i);
                count += definition.mark == stamp && (definition.machines & machineBit) == 0 ? 1 : 0;
            }
            return count;
        }

        int sendMarked(int machineBit) {
            int count = markedWithout(machineBit);
            for (int i = 0; i < all.size(); i++) {
                all.get(i).machines |= all.get(i).mark == stamp ? machineBit : 0;
            }
            return count;
        }

        void emptyMachine(int machineBit) {
            for (int i = 0; i < all.size(); i++) {
                all.get(i).machines &= ~machineBit;
            }
        }

        int dropUnmarked() {
            int dropped = 0;
            for (int i = 0; i < all.size(); i++) {
                Definition definition = all.get(i);
                if (definition.isKept && definition.mark != stamp) {
                    definition.isKept = false;
                    dropped++;
                }
            }
            kept -= dropped;
            return dropped;
        }

        void forgetChanges() {
            for (int i = 0; i < all.size(); i++) {
                all.get(i).became = null;
                all.get(i).isCarried = false;
            }
        }

        void hashMarkedAnew(Groups groups) {
            for (int start = 0; start < all.size(); start++) {
                if (!isStart(start) || all.get(start).mark != stamp) {
                    continue;
                }
                int end = groupEnd(start);
                groups.clear();
                for (int i = start; i <= end; i++) {
                    groups.add(all.get(i));
                }
                groups.connect();
                if (groups.nextGroup()) {
                    groups.hashMembers();
                }
            }
        }

        boolean areMarkedSound(Checker checker) {
            for (int i = 0; i < all.size(); i++) {
                Definition definition = all.get(i);
                if (definition.mark != stamp) {
                    continue;
                }
                if (definition.anew != definition.hash || !definition.isData && !checker.hasItsType(definition)) {
                    return false;
                }
            }
            return true;
        }
    }

    /** The names of each branch, and what the commits keep of them. */
    private static final class Branches {
        private final Definition[] names = new Definition[MOST_BRANCHES * NAMES];
        private final int[] lastCommits = new int[MOST_BRANCHES];
        private final Definition[] committed = new Definition[MOST_COMMITS * NAMES];
        private final int[] parents = new int[2 * MOST_COMMITS];
        private final boolean[] isConflict = new boolean[NAMES];
        private int branchCount = 1;
        private int present;
        private int commitsMade;

        Branches() {
            lastCommits[0] = NONE;
        }

        Definition at(int name) {
            return isName(name) ? names[present * NAMES + name] : null;
        }

        void give(int name, Definition definition) {
            if (isName(name)) {
                names[present * NAMES + name] = definition;
            }
        }

        int namesOf(Definition definition) {
            int count = 0;
            for (int name = 0; name < NAMES; name++) {
                count += names[present * NAMES + name] == definition ? 1 : 0;
            }
            return count;
        }

        int lowestNameOf(Definition definition) {
            for (int name = 0; name < NAMES; name++) {
                if (names[present * NAMES + name] == definition) {
                    return name;
                }
            }
            return NONE;
        }

        /** How many definitions have names in the present branch. */
        int namedCount() {
            int count = 0;
            for (int name = 0; name < NAMES; name++) {
                Definition definition = at(name);
                count += definition != null && lowestNameOf(definition) == name ? 1 : 0;
            }
            return count;
        }

        void markNames(Codebase codebase) {
            for (int name = 0; name < NAMES; name++) {
                codebase.mark(at(name));
            }
        }

        void markAll(Codebase codebase) {
            for (int i = 0; i < names.length; i++) {
                codebase.mark(names[i]);
            }
            for (int i = 0; i < committed.length; i++) {
                codebase.mark(committed[i]);
            }
        }

        boolean hasBranch(int branch) {
            return branch >= 0 && branch < branchCount;
        }

        boolean isPresent(int branch) {
            return branch == present;
        }

        int addBranch() {
            if (branchCount >= MOST_BRANCHES) {
                return NONE;
            }
            for (int name = 0; name < NAMES; name++) {
                names[branchCount * NAMES + name] = names[present * NAMES + name];
            }
            lastCommits[branchCount] = lastCommits[present];
            branchCount++;
            return branchCount - 1;
        }

        int enter(int branch) {
            int left = present;
            if (hasBranch(branch)) {
                present = branch;
            }
            return left;
        }

        boolean hasCommit(int commit) {
            return commit >= 0 && commit < commitsMade;
        }

        int commitCount() {
            return commitsMade;
        }

        Definition atCommit(int commit, int name) {
            return hasCommit(commit) && isName(name) ? committed[commit * NAMES + name] : null;
        }

        /** Commits the present branch, with a further parent if that is not NONE. */
        int recordCommit(int parent) {
            if (commitsMade >= MOST_COMMITS) {
                return NONE;
            }
            for (int name = 0; name < NAMES; name++) {
                committed[commitsMade * NAMES + name] = names[present * NAMES + name];
            }
            parents[2 * commitsMade] = lastCommits[present];
            parents[2 * commitsMade + 1] = parent;
            lastCommits[present] = commitsMade;
            commitsMade++;
            return commitsMade - 1;
        }

        /** A bit for each ancestor; parents have lower numbers than what comes of them. */
        private long ancestorsOf(int commit) {
            if (!hasCommit(commit)) {
                return 0;
            }
            long ancestors = 1L << commit;
            for (int i = commit; i >= 0; i--) {
                if ((ancestors >> i & 1) != 0) {
                    ancestors |= parents[2 * i] < 0 ? 0 : 1L << parents[2 * i];
                    ancestors |= parents[2 * i + 1] < 0 ? 0 : 1L << parents[2 * i + 1];
                }
            }
            return ancestors;
        }

        int commonAncestor(int commit, int other) {
            long common = ancestorsOf(commit) & ancestorsOf(other);
            for (int i = commitsMade - 1; i >= 0; i--) {
                if ((common >> i & 1) != 0) {
                    return i;
                }
            }
            return NONE;
        }

        int mergeIn(int branch) {
            if (!hasBranch(branch)) {
                return 0;
            }
            int base = commonAncestor(lastCommits[present], lastCommits[branch]);
            int conflicts = 0;
            for (int name = 0; name < NAMES; name++) {
                Definition was = atCommit(base, name);
                Definition here = names[present * NAMES + name];
                Definition there = names[branch * NAMES + name];
                isConflict[name] = here != was && there != was && here != there;
                conflicts += isConflict[name] ? 1 : 0;
                if (here == was) {
                    names[present * NAMES + name] = there;
                }
            }
            recordCommit(lastCommits[branch]);
            return conflicts;
        }

        int conflictName(int index) {
            int left = index;
            for (int name = 0; name < NAMES && index >= 0; name++) {
                if (isConflict[name]) {
                    if (left == 0) {
                        return name;
                    }
                    left--;
                }
            }
            return NONE;
        }
    }

    /** What is staged: drafts with names, in their order. */
    private static final class Staging {
        private final Nodes nodes;
        private final Groups groups;
        private final Checker checker;
        private final Codebase codebase;
        private final Branches branches;
        private final Definition[] drafts = new Definition[MOST_STAGED];
        private final int[] names = new int[MOST_STAGED];
        private int count;
        private int uniques;
        private int faulty;

        Staging(Nodes nodes, Groups groups, Checker checker, Codebase codebase, Branches branches) {
            this.nodes = nodes;
            this.groups = groups;
            this.checker = checker;
            this.codebase = codebase;
            this.branches = branches;
            for (int i = 0; i < MOST_STAGED; i++) {
                drafts[i] = new Definition();
            }
        }

        int stagedCount() {
            return count;
        }

        private int indexOf(int name) {
            for (int i = 0; i < count; i++) {
                if (names[i] == name) {
                    return i;
                }
            }
            return NONE;
        }

        boolean isStaged(int name) {
            return indexOf(name) != NONE;
        }

        boolean hasPlaceFor(int name) {
            return count < MOST_STAGED || isStaged(name);
        }

        /** Stages behind all others, in place of what had this name. */
        Staging put(int name, boolean isData, int type, int term) {
            int earlier = indexOf(name);
            if (earlier != NONE) {
                moveBehind(earlier);
            } else if (count < MOST_STAGED) {
                count++;
            }
            names[count - 1] = name;
            Definition draft = drafts[count - 1];
            draft.isData = isData;
            draft.own = 0;
            draft.typeNode = type;
            draft.termNode = term;
            return this;
        }

        private void moveBehind(int index) {
            Definition moved = drafts[index];
            for (int i = index; i + 1 < count; i++) {
                drafts[i] = drafts[i + 1];
                names[i] = names[i + 1];
            }
            drafts[count - 1] = moved;
        }

        /** Gives the data that was staged last a number of its own. */
        void makeUnique() {
            uniques++;
            if (count > 0) {
                drafts[count - 1].own = uniques;
            }
        }

        /** Drafts that became definitions are the codebase's now, so new ones take their places. */
        void clear() {
            for (int i = 0; i < count; i++) {
                if (drafts[i].isKept) {
                    drafts[i] = new Definition();
                }
            }
            count = 0;
        }

        boolean areNamesFree() {
            for (int i = 0; i < count; i++) {
                if (branches.at(names[i]) != null) {
                    return false;
                }
            }
            return true;
        }

        boolean haveNamesTheirKind() {
            for (int i = 0; i < count; i++) {
                Definition old = branches.at(names[i]);
                if (old == null || old.isData != drafts[i].isData) {
                    return false;
                }
            }
            return true;
        }

        int nameOfFault() {
            return faulty;
        }

        /** Finds what the names in the drafts mean, and the types; answers the fault. */
        char lookOver() {
            for (int i = 0; i < count; i++) {
                char fault = drafts[i].isData ? lookAtData(i) : NOTHING;
                if (fault != NOTHING) {
                    faulty = names[i];
                    return fault;
                }
            }
            for (int i = 0; i < count; i++) {
                if (!drafts[i].isData && !findMeanings(i)) {
                    faulty = names[i];
                    return 'n';
                }
            }
            for (int i = 0; i < count; i++) {
                if (!drafts[i].isData && !checker.hasItsType(drafts[i])) {
                    faulty = names[i];
                    return 't';
                }
            }
            return NOTHING;
        }

        private char lookAtData(int index) {
            Definition draft = drafts[index];
            draft.standIn = null;
            int used = nodes.dataNamesAt(draft.termNode);
            boolean areThere = true;
            for (int name = 0; name < NAMES; name++) {
                boolean isUsed = (used >> name & 1) != 0;
                draft.meant[NAMES + name] = null;
                draft.meant[name] = isUsed ? meaning(name, true, index + 1) : null;
                areThere = areThere && (!isUsed || draft.meant[name] != null);
            }
            if (!areThere) {
                return 'n';
            }
            int constructor = draft.termNode;
            for (int i = 0; i < MOST_CONSTRUCTORS && constructor >= 0; i++) {
                constructor = nodes.bAt(constructor);
            }
            if (constructor >= 0) {
                return 'k';
            }
            draft.place = 0;
            draft.anew = groups.hashOfData(draft);
            draft.hash = draft.anew;
            return NOTHING;
        }

        private boolean findMeanings(int index) {
            Definition draft = drafts[index];
            draft.standIn = null;
            int data = nodes.dataNamesAt(draft.typeNode) | nodes.dataNamesAt(draft.termNode);
            int terms = nodes.termNamesAt(draft.termNode);
            boolean areThere = true;
            for (int name = 0; name < NAMES; name++) {
                boolean isData = (data >> name & 1) != 0;
                boolean isTerm = (terms >> name & 1) != 0;
                draft.meant[name] = isData ? meaning(name, true, count) : null;
                draft.meant[NAMES + name] = isTerm ? meaning(name, false, count) : null;
                areThere = areThere && (!isData || draft.meant[name] != null);
                areThere = areThere && (!isTerm || draft.meant[NAMES + name] != null);
            }
            return areThere;
        }

        /** What a name means: one of the first staged ones, or what is in the branch, null for none. */
        private Definition meaning(int name, boolean isData, int first) {
            int index = indexOf(name);
            if (index != NONE && index < first && drafts[index].isData == isData) {
                return drafts[index];
            }
            Definition there = branches.at(name);
            return there != null && there.isData == isData ? there : null;
        }

        /** Keeps the drafts, in which there is no fault; answers how many are new. */
        int settle() {
            int fresh = 0;
            for (int i = 0; i < count; i++) {
                if (drafts[i].isData) {
                    groups.setOnly(drafts[i]);
                    fresh += codebase.settle(groups);
                }
            }
            groups.clear();
            for (int i = 0; i < count; i++) {
                if (!drafts[i].isData) {
                    groups.add(drafts[i]);
                }
            }
            groups.connect();
            for (int i = 0; i < MOST_STAGED && groups.nextGroup(); i++) {
                groups.hashMembers();
                fresh += codebase.settle(groups);
            }
            return fresh;
        }

        private Definition settled(int index) {
            Definition draft = drafts[index];
            return draft.standIn != null ? draft.standIn : draft;
        }

        /** The hashes that the names have become the new ones; of two for one hash the later counts. */
        void noteChanges() {
            for (int i = 0; i < count; i++) {
                Definition old = branches.at(names[i]);
                if (old != null) {
                    old.became = settled(i);
                }
            }
            for (int i = 0; i < count; i++) {
                Definition old = branches.at(names[i]);
                if (old != null && old.became == old) {
                    old.became = null;
                }
            }
        }

        void giveNames() {
            for (int i = 0; i < count; i++) {
                branches.give(names[i], settled(i));
            }
        }
    }

    /** The patches, one behind the other in two lists: what becomes another, and what it becomes. */
    private static final class Patches {
        private final Codebase codebase;
        private final ArrayList<Definition> froms = new ArrayList<Definition>();
        private final ArrayList<Definition> tos = new ArrayList<Definition>();
        private final int[] starts = new int[MOST_PATCHES + 1];
        private int count;

        Patches(Codebase codebase) {
            this.codebase = codebase;
        }

        int patchCount() {
            return count;
        }

        boolean isFull() {
            return count >= MOST_PATCHES;
        }

        private int startOf(int patch) {
            return patch >= 0 && patch <= count && patch < starts.length ? starts[patch] : froms.size();
        }

        private int endOf(int patch) {
            return Math.min(startOf(patch + 1), froms.size());
        }

        int sizeOf(int patch) {
            return endOf(patch) - startOf(patch);
        }

        private void add(Definition from, Definition to) {
            froms.add(from);
            tos.add(to);
        }

        private void close() {
            if (count < MOST_PATCHES) {
                count++;
                starts[count] = froms.size();
            }
        }

        void markAll() {
            for (int i = 0; i < froms.size(); i++) {
                codebase.mark(froms.get(i));
                codebase.mark(tos.get(i));
            }
        }

        void addChanges() {
            for (int i = 0; i < codebase.size(); i++) {
                Definition definition = codebase.at(i);
                if (definition != null && definition.became != null) {
                    add(definition, definition.became);
                }
            }
            close();
        }

        private void setFollowing(int patch, boolean isFollowed) {
            int end = endOf(patch);
            for (int i = startOf(patch); i < end; i++) {
                froms.get(i).follow = isFollowed ? tos.get(i) : null;
            }
        }

        /** The last one of what follows, ahead of what would come again. */
        private Definition lastOf(Definition definition) {
            codebase.beginMarks();
            codebase.mark(definition);
            Definition at = definition;
            for (int i = 0; i < codebase.size() && at.follow != null && !codebase.isMarked(at.follow); i++) {
                at = at.follow;
                codebase.mark(at);
            }
            return at;
        }

        /** Notes at each definition what it becomes by a patch, if that is another one. */
        void noteChanges(int patch) {
            setFollowing(patch, true);
            int end = endOf(patch);
            for (int i = startOf(patch); i < end; i++) {
                Definition last = lastOf(froms.get(i));
                froms.get(i).became = last == froms.get(i) ? null : last;
            }
            setFollowing(patch, false);
        }

        int addComposed(int patch, int other) {
            int made = froms.size();
            int end = endOf(patch);
            setFollowing(patch, true);
            for (int i = startOf(patch); i < end; i++) {
                add(froms.get(i), lastOf(froms.get(i)));
            }
            setFollowing(patch, false);
            setFollowing(other, true);
            for (int i = made; i < froms.size(); i++) {
                tos.set(i, lastOf(tos.get(i)));
            }
            end = endOf(other);
            for (int i = startOf(other); i < end; i++) {
                if (indexIn(patch, froms.get(i)) == NONE) {
                    add(froms.get(i), lastOf(froms.get(i)));
                }
            }
            setFollowing(other, false);
            close();
            return count - 1;
        }

        private int indexIn(int patch, Definition from) {
            int end = endOf(patch);
            for (int i = startOf(patch); i < end; i++) {
                if (froms.get(i) == from) {
                    return i;
                }
            }
            return NONE;
        }

        /** Answers the number of conflicts. */
        int addMerged(int patch, int other) {
            int conflicts = 0;
            int end = endOf(patch);
            for (int i = startOf(patch); i < end; i++) {
                add(froms.get(i), tos.get(i));
            }
            end = endOf(other);
            for (int i = startOf(other); i < end; i++) {
                int there = indexIn(patch, froms.get(i));
                if (there == NONE) {
                    add(froms.get(i), tos.get(i));
                } else {
                    conflicts += tos.get(there) == tos.get(i) ? 0 : 1;
                }
            }
            close();
            return conflicts;
        }
    }

    /** Carries changes along to what needs them, and keeps the names that are to do. */
    private static final class Carrier {
        private final Groups groups;
        private final Checker checker;
        private final Codebase codebase;
        private final Branches branches;
        private final Definition[] originals = new Definition[MOST_STAGED];
        private final Definition[] copies = new Definition[MOST_STAGED];
        private final boolean[] isTodo = new boolean[NAMES];
        private int carried;

        Carrier(Groups groups, Checker checker, Codebase codebase, Branches branches) {
            this.groups = groups;
            this.checker = checker;
            this.codebase = codebase;
            this.branches = branches;
            for (int i = 0; i < MOST_STAGED; i++) {
                copies[i] = new Definition();
            }
        }

        int todoCount() {
            int count = 0;
            for (int name = 0; name < NAMES; name++) {
                count += isTodo[name] ? 1 : 0;
            }
            return count;
        }

        int todoName(int index) {
            int left = index;
            for (int name = 0; name < NAMES && index >= 0; name++) {
                if (isTodo[name]) {
                    if (left == 0) {
                        return name;
                    }
                    left--;
                }
            }
            return NONE;
        }

        /**
         * Goes through all that can be reached from the names of the branch; what has become another
         * one already is left out. Answers how many definitions were replaced.
         */
        int carryAlong() {
            for (int name = 0; name < NAMES; name++) {
                isTodo[name] = false;
            }
            carried = 0;
            codebase.beginMarks();
            branches.markNames(codebase);
            codebase.sweep();
            int old = codebase.size();
            for (int start = 0; start < old; start++) {
                if (!codebase.isStart(start) || !codebase.isMarked(codebase.at(start))) {
                    continue;
                }
                addUnchanged(start, codebase.groupEnd(start));
                for (int i = 0; i < MOST_STAGED && groups.nextGroup(); i++) {
                    carryGroup();
                }
            }
            return carried;
        }

        private void addUnchanged(int start, int end) {
            groups.clear();
            for (int i = start; i <= end; i++) {
                Definition definition = codebase.at(i);
                if (definition != null && definition.became == null) {
                    groups.add(definition);
                }
            }
            groups.connect();
        }

        private void carryGroup() {
            int size = groups.size();
            boolean isReplaced = false;
            for (int i = 0; i < size; i++) {
                originals[i] = groups.member(i);
                isReplaced = isReplaced || originals[i] != null && originals[i].usesChanged();
            }
            if (!isReplaced) {
                return;
            }
            copyOriginals(size);
            boolean haveTypes = codebase.size() + size <= MOST_DEFINITIONS;
            for (int i = 0; i < size && haveTypes; i++) {
                haveTypes = copies[i].isData || checker.hasItsType(copies[i]);
            }
            if (!haveTypes) {
                leaveToDo(size);
                return;
            }
            for (int i = 0; i < size; i++) {
                groups.setMember(i, copies[i]);
            }
            groups.hashMembers();
            codebase.settle(groups);
            for (int i = 0; i < size; i++) {
                takeCopy(i);
            }
        }

        private void copyOriginals(int size) {
            for (int i = 0; i < size; i++) {
                originals[i].standIn = copies[i];
            }
            for (int i = 0; i < size; i++) {
                copies[i].copyReplaced(originals[i]);
            }
            for (int i = 0; i < size; i++) {
                originals[i].standIn = null;
            }
        }

        private void leaveToDo(int size) {
            for (int i = 0; i < size; i++) {
                for (int name = 0; name < NAMES; name++) {
                    isTodo[name] = isTodo[name] || branches.at(name) == originals[i];
                }
            }
        }

        private void takeCopy(int index) {
            Definition original = originals[index];
            Definition copy = copies[index];
            Definition made = copy.standIn != null ? copy.standIn : copy;
            if (made != original) {
                original.became = made;
                original.isCarried = true;
                carried++;
            }
            if (copy.isKept) {
                copies[index] = new Definition();
            }
        }
    }

    /** Works terms out, with frames of its own in place of a recursion. */
    private static final class Worker {
        private final Nodes nodes;
        private final int[] frameNodes = new int[MOST_FRAMES];
        private final int[] frameSteps = new int[MOST_FRAMES];
        private final Definition[] frameDefinitions = new Definition[MOST_FRAMES];
        private final Cell[] frameScopes = new Cell[MOST_FRAMES];
        private final Cell[] frameHeld = new Cell[MOST_FRAMES];
        private final Cell first = new Cell();
        private Cell last;
        private Cell answer;
        private int frames;
        private int begun;
        private int underWay;
        private boolean isStopped;

        Worker(Nodes nodes) {
            this.nodes = nodes;
            last = first;
        }

        /** Answers the value, which holds until the next call, or null if it was stopped. */
        Cell workOut(Definition term) {
            last = first;
            answer = null;
            frames = 0;
            begun = 0;
            underWay = 0;
            isStopped = false;
            if (isBegun()) {
                push(term.termNode, term, null);
            }
            for (int i = 0; i < MOST_STEPS && frames > 0 && !isStopped; i++) {
                advance(frames - 1);
            }
            return isStopped || frames > 0 ? null : answer;
        }

        private boolean isBegun() {
            if (begun >= MOST_BEGUN || underWay >= MOST_UNDER_WAY) {
                isStopped = true;
                return false;
            }
            begun++;
            underWay++;
            return true;
        }

        private void push(int node, Definition in, Cell scope) {
            if (frames >= MOST_FRAMES) {
                isStopped = true;
                return;
            }
            frameNodes[frames] = node;
            frameSteps[frames] = 0;
            frameDefinitions[frames] = in;
            frameScopes[frames] = scope;
            frameHeld[frames] = null;
            frames++;
        }

        /** Works a part of the term out, in the scope of the whole. */
        private void pushPart(int top, int node) {
            frameSteps[top]++;
            push(node, frameDefinitions[top], frameScopes[top]);
        }

        /** What is worked out last in a frame takes its place. */
        private void turnInto(int top, int node, Cell scope) {
            frameNodes[top] = node;
            frameSteps[top] = 0;
            frameScopes[top] = scope;
        }

        private void finish(Cell value) {
            answer = value;
            isStopped = isStopped || value == null;
            frames--;
        }

        private Cell cell(char kind, int number, Cell inner) {
            last = last.following(kind);
            last.number = number;
            last.inner = inner;
            return last;
        }

        private Cell bind(Cell value, Cell outer) {
            Cell scope = cell('s', 0, value);
            scope.outer = outer;
            return scope;
        }

        private void advance(int top) {
            if (top < 0 || top >= MOST_FRAMES) {
                isStopped = true;
                return;
            }
            int node = frameNodes[top];
            switch (nodes.kindAt(node)) {
                case 'i':
                    finish(cell('i', nodes.aAt(node), null));
                    break;
                case 'v':
                    finish(lookUp(frameScopes[top], nodes.aAt(node)));
                    break;
                case 'f':
                    Cell function = cell('f', 0, frameScopes[top]);
                    function.node = node;
                    function.definition = frameDefinitions[top];
                    finish(function);
                    break;
                case 'a':
                    advanceApplication(top, node);
                    break;
                case 'o':
                    advanceOperator(top, node);
                    break;
                case '?':
                    advanceChoice(top, node);
                    break;
                case 'l':
                    advanceBinding(top, node);
                    break;
                case 'r':
                    advanceName(top, node);
                    break;
                case 'm':
                    advanceConstructor(top, node);
                    break;
                case 'c':
                    advanceBranches(top, node);
                    break;
                default:
                    isStopped = true;
            }
        }

        private static Cell lookUp(Cell scope, int variable) {
            Cell at = scope;
            for (int i = 0; i < variable && at != null; i++) {
                at = at.outer;
            }
            return at == null ? null : at.inner;
        }

        private void advanceApplication(int top, int node) {
            switch (frameSteps[top]) {
                case 0:
                    pushPart(top, nodes.aAt(node));
                    break;
                case 1:
                    frameHeld[top] = answer;
                    pushPart(top, nodes.bAt(node));
                    break;
                case 2:
                    Cell function = frameHeld[top];
                    if (function == null || function.kind != 'f') {
                        isStopped = true;
                    } else if (isBegun()) {
                        frameSteps[top]++;
                        push(nodes.bAt(function.node), function.definition, bind(answer, function.inner));
                    }
                    break;
                default:
                    underWay--;
                    finish(answer);
            }
        }

        private void advanceOperator(int top, int node) {
            switch (frameSteps[top]) {
                case 0:
                    pushPart(top, nodes.aAt(node));
                    break;
                case 1:
                    frameHeld[top] = answer;
                    pushPart(top, nodes.bAt(node));
                    break;
                default:
                    Cell left = frameHeld[top];
                    if (left == null || answer == null) {
                        isStopped = true;
                    } else {
                        finish(cell('i', operate(nodes.cAt(node), left.number, answer.number), null));
                    }
            }
        }

        private static int operate(int operator, int left, int right) {
            switch (operator) {
                case 0:
                    return left + right;
                case 1:
                    return left - right;
                case 2:
                    return left * right;
                case 3:
                    return left < right ? 1 : 0;
                default:
                    return left == right ? 1 : 0;
            }
        }

        private void advanceChoice(int top, int node) {
            if (frameSteps[top] == 0) {
                pushPart(top, nodes.aAt(node));
            } else {
                boolean isTrue = answer != null && answer.number != 0;
                turnInto(top, isTrue ? nodes.bAt(node) : nodes.cAt(node), frameScopes[top]);
            }
        }

        private void advanceBinding(int top, int node) {
            if (frameSteps[top] == 0) {
                pushPart(top, nodes.aAt(node));
            } else {
                turnInto(top, nodes.bAt(node), bind(answer, frameScopes[top]));
            }
        }

        private void advanceName(int top, int node) {
            if (frameSteps[top] != 0) {
                underWay--;
                finish(answer);
                return;
            }
            Definition named = frameDefinitions[top] == null ? null : frameDefinitions[top].termAt(nodes.aAt(node));
            if (named == null) {
                isStopped = true;
            } else if (isBegun()) {
                frameSteps[top]++;
                push(named.termNode, named, null);
            }
        }

        private void advanceConstructor(int top, int node) {
            int argument = nodes.cAt(node);
            if (argument < 0) {
                finish(cell('c', nodes.bAt(node), null));
            } else if (frameSteps[top] == 0) {
                pushPart(top, argument);
            } else {
                finish(cell('c', nodes.bAt(node), answer));
            }
        }

        private void advanceBranches(int top, int node) {
            if (frameSteps[top] == 0) {
                pushPart(top, nodes.bAt(node));
                return;
            }
            if (answer == null) {
                isStopped = true;
                return;
            }
            int branch = nodes.cAt(node);
            for (int i = 0; i < answer.number && i < MOST_CONSTRUCTORS; i++) {
                branch = nodes.bAt(branch);
            }
            Cell scope = answer.inner == null ? frameScopes[top] : bind(answer.inner, frameScopes[top]);
            turnInto(top, nodes.aAt(branch), scope);
        }
    }

    /** Writes the line. */
    private static final class Writer {
        private final Nodes nodes;
        private final Codebase codebase;
        private final Branches branches;
        private final char[] line = new char[LINE];
        private int length;

        Writer(Nodes nodes, Codebase codebase, Branches branches) {
            this.nodes = nodes;
            this.codebase = codebase;
            this.branches = branches;
        }

        void clear() {
            length = 0;
        }

        int lineLength() {
            return length;
        }

        char signAt(int index) {
            return index >= 0 && index < length ? line[index] : NOTHING;
        }

        private void put(char sign) {
            if (length < LINE) {
                line[length] = sign;
                length++;
            }
        }

        private void put(String text) {
            for (int i = 0; i < text.length(); i++) {
                put(text.charAt(i));
            }
        }

        private void number(int number) {
            long left = Math.abs((long) number);
            if (number < 0) {
                put('-');
            }
            boolean isBegun = false;
            for (long unit = 1_000_000_000L; unit > 0; unit /= 10) {
                int digit = (int) (left / unit);
                left -= digit * unit;
                isBegun = isBegun || digit != 0 || unit == 1;
                if (isBegun) {
                    put((char) ('0' + digit));
                }
            }
        }

        private void variable(int binders) {
            put('x');
            number(binders);
        }

        private void constructor(int number) {
            put('c');
            number(number);
        }

        /** Writes a value, whose constructors are a chain; nothing is written for null. */
        void value(Cell value) {
            int open = 0;
            Cell at = value;
            for (int i = 0; i < LINE && at != null && at.kind == 'c'; i++) {
                constructor(at.number);
                at = at.inner;
                if (at != null) {
                    put('(');
                    open++;
                }
            }
            if (at != null && at.kind == 'i') {
                number(at.number);
            }
            if (at != null && at.kind == 'f') {
                put("fn");
            }
            for (int i = 0; i < open; i++) {
                put(')');
            }
        }

        void toldType(Definition term) {
            type(term.typeNode, term, 0);
        }

        void body(Definition definition) {
            if (!definition.isData) {
                term(definition.termNode, definition, 0, 0);
                return;
            }
            int at = definition.termNode;
            for (int i = 0; i < MOST_CONSTRUCTORS && at >= 0; i++) {
                put(i == 0 ? "" : " | ");
                constructor(i);
                if (nodes.aAt(at) >= 0) {
                    put(' ');
                    type(nodes.aAt(at), definition, 0);
                }
                at = nodes.bAt(at);
            }
        }

        private void named(Definition definition) {
            if (definition == null) {
                return;
            }
            int name = branches.lowestNameOf(definition);
            if (name != NONE) {
                put((char) ('a' + name));
                return;
            }
            put('#');
            int digits = digitsNeeded(definition);
            for (int i = 0; i < digits; i++) {
                int digit = digitOf(definition.hash, i);
                put((char) (digit < 10 ? '0' + digit : 'a' + digit - 10));
            }
        }

        private int digitsNeeded(Definition definition) {
            int digits = 1;
            for (int i = 0; i < codebase.size(); i++) {
                Definition other = codebase.at(i);
                if (other != null && other != definition && other.isKept) {
                    digits = Math.max(digits, digitsApart(other.hash, definition.hash));
                }
            }
            return digits;
        }

        private static int digitsApart(long hash, long other) {
            int digits = 1;
            while (digits < HASH_DIGITS && digitOf(hash, digits - 1) == digitOf(other, digits - 1)) {
                digits++;
            }
            return digits;
        }

        private static int digitOf(long hash, int index) {
            return (int) (hash >>> 60 - 4 * index & 15);
        }

        private void type(int node, Definition in, int depth) {
            if (depth > DEEPEST) {
                return;
            }
            switch (nodes.kindAt(node)) {
                case '>':
                    put('(');
                    type(nodes.aAt(node), in, depth + 1);
                    put(" -> ");
                    type(nodes.bAt(node), in, depth + 1);
                    put(')');
                    break;
                case 'd':
                    Definition data = in.dataAt(nodes.aAt(node));
                    if (in.isData && data == in) {
                        put('.');
                    } else {
                        named(data);
                    }
                    break;
                default:
                    put("int");
            }
        }

        private void term(int node, Definition in, int binders, int depth) {
            if (depth > DEEPEST) {
                return;
            }
            int a = nodes.aAt(node);
            switch (nodes.kindAt(node)) {
                case 'i':
                    number(a);
                    break;
                case 'v':
                    variable(binders - 1 - a);
                    break;
                case 'f':
                    put('(');
                    variable(binders);
                    put(": ");
                    type(a, in, 0);
                    put(" => ");
                    term(nodes.bAt(node), in, binders + 1, depth + 1);
                    put(')');
                    break;
                case 'a':
                    term(a, in, binders, depth + 1);
                    put('(');
                    term(nodes.bAt(node), in, binders, depth + 1);
                    put(')');
                    break;
                case 'r':
                    named(in.termAt(a));
                    break;
                case 'm':
                    construction(node, in, binders, depth + 1);
                    break;
                case 'c':
                    selection(node, in, binders, depth + 1);
                    break;
                default:
                    inBrackets(node, in, binders, depth + 1);
            }
        }

        private void inBrackets(int node, Definition in, int binders, int depth) {
            boolean isBinding = nodes.kindAt(node) == 'l';
            put('(');
            if (isBinding) {
                variable(binders);
                put(" = ");
            }
            term(nodes.aAt(node), in, binders, depth);
            if (isBinding) {
                put("; ");
            } else {
                put(' ');
                put(signOf(node));
                put(' ');
            }
            term(nodes.bAt(node), in, isBinding ? binders + 1 : binders, depth);
            if (nodes.kindAt(node) == '?') {
                put(" : ");
                term(nodes.cAt(node), in, binders, depth);
            }
            put(')');
        }

        private char signOf(int node) {
            if (nodes.kindAt(node) == '?') {
                return '?';
            }
            switch (nodes.cAt(node)) {
                case 0:
                    return '+';
                case 1:
                    return '-';
                case 2:
                    return '*';
                case 3:
                    return '<';
                default:
                    return '=';
            }
        }

        private void construction(int node, Definition in, int binders, int depth) {
            named(in.dataAt(nodes.aAt(node)));
            put('.');
            constructor(nodes.bAt(node));
            if (nodes.cAt(node) >= 0) {
                put('(');
                term(nodes.cAt(node), in, binders, depth);
                put(')');
            }
        }

        private void selection(int node, Definition in, int binders, int depth) {
            put('(');
            term(nodes.bAt(node), in, binders, depth);
            Definition data = in.dataAt(nodes.aAt(node));
            int constructor = data == null ? NONE : data.termNode;
            int branch = nodes.cAt(node);
            for (int i = 0; i < MOST_CONSTRUCTORS && branch >= 0; i++) {
                put(" | ");
                constructor(i);
                int inside = binders;
                if (nodes.aAt(constructor) >= 0) {
                    put(' ');
                    variable(binders);
                    inside++;
                }
                put(" => ");
                term(nodes.aAt(branch), in, inside, depth);
                constructor = nodes.bAt(constructor);
                branch = nodes.bAt(branch);
            }
            put(')');
        }
    }
}
