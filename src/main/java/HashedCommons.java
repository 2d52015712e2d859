import java.util.Arrays;
import java.util.NoSuchElementException;

/**
 * A commons of code that is kept by what it says: definitions have hashes of their structure, names
 * stand apart from them. README.md tells how the parts work together.
 */
public final class HashedCommons {
    private static final int NAMES = 26;
    private static final int MOST_NODES = 300;
    private static final int MOST_DEPTH = 20;
    private static final int MOST_WEIGHT = 200;
    private static final int MOST_VARIABLE = 30;
    private static final int MOST_CONSTRUCTORS = 4;
    private static final int OPERATORS = 5;
    private static final int MOST_STAGED = 8;
    private static final int MOST_PATCHES = 20;
    private static final int MOST_BRANCHES = 5;
    private static final int MOST_COMMITS = 40;
    private static final int MOST_BEGUN = 300;
    private static final int MOST_UNDER_WAY = 25;
    private static final int MACHINES = 3;
    private static final int MOST_JOBS = 30;
    private static final int LINE = 200;
    private static final int HASH_DIGITS = 16;

    /** No document limit: guards the recursions over nodes, which are at most MOST_DEPTH deep. */
    private static final int DEEPEST = 40;
    /** No document limit: stands far above the steps that 300 beginnings of 200 nodes can take. */
    private static final int MOST_STEPS = 1_000_000;
    private static final int MOST_FRAMES = 600;
    /** No document limit: stands above the definitions for which there is room. */
    private static final int MOST_GROUPS = 1_000_000;

    /**
     * No document limit: definitions and patches grow as long as a run has room for them, which is some
     * 7.3 million numbers in all. The rest is for the constructors and for what is worked out.
     */
    private static final int MOST_PARTS = 3000;
    private static final int PART_BITS = 11;
    private static final int PART = 1 << PART_BITS;
    /** Parts that are left to all others when changes are carried along, and when patches are kept. */
    private static final int CARRY_RESERVE = 64;
    private static final int PATCH_RESERVE = 32;
    /** Parts that one definition can need, one in each row. */
    private static final int LEAST_PARTS = 4;
    private static final int ROWS_IN_BUCKET = 4;
    /** Drafts of what is staged, and then of what is carried along, are the first definitions. */
    private static final int FIRST_COPY = MOST_STAGED;
    private static final int DRAFTS = 2 * MOST_STAGED;

    private static final int NONE = -1;
    private static final char NOTHING = '-';
    private static final char TYPE_SORT = 'T';
    private static final char TERM_SORT = 't';
    private static final char BRANCH_SORT = 'B';
    private static final char CONSTRUCTOR_SORT = 'C';
    private static final long ROW_START = -3750763034362895579L;
    private static final long ROW_FACTOR = 1099511628211L;

    private final Nodes nodes;
    private final Groups groups;
    private final Checker checker;
    private final Codebase codebase;
    private final Branches branches;
    private final Staging staging;
    private final Patches patches;
    private final Carrier carrier;
    private final Worker worker;
    private final Writer writer;
    private final int[] before;
    private final int[] jobDefinitions;
    private final int[] jobMachines;
    private final char[] jobStates;
    private final char[] jobOutcomes;
    private final int[] jobNumbers;
    private int jobCount;
    private int downMachines;
    private int testCount;
    private long sent;

    public HashedCommons() {
        nodes = new Nodes();
        codebase = new Codebase(nodes);
        groups = new Groups(nodes, codebase);
        checker = new Checker(nodes, codebase);
        branches = new Branches();
        staging = new Staging(nodes, groups, checker, codebase, branches);
        patches = new Patches(codebase);
        carrier = new Carrier(groups, checker, codebase, branches);
        worker = new Worker(nodes, codebase);
        writer = new Writer(nodes, codebase, branches);
        before = new int[NAMES];
        jobDefinitions = new int[MOST_JOBS];
        jobMachines = new int[MOST_JOBS];
        jobStates = new char[MOST_JOBS];
        jobOutcomes = new char[MOST_JOBS];
        jobNumbers = new int[MOST_JOBS];
    }

    // Nodes and staging

    public int node(char kind, int a, int b, int c) throws IllegalArgumentException, IllegalStateException {
        if (!nodes.fits(kind, a, b, c)) {
            throw new IllegalArgumentException("no such kind, or an operand is not as told for it");
        }
        int node = nodes.tell(kind, a, b, c);
        if (node == NONE) {
            throw new IllegalStateException("too many nodes, too deep or too heavy");
        }
        return node;
    }

    public int stage(int name, int type, int term)
        throws IllegalArgumentException, NoSuchElementException, UnsupportedOperationException, IllegalStateException {
        requireName(name);
        requireNode(type);
        requireNode(term);
        if (nodes.sortAt(type) != TYPE_SORT || nodes.sortAt(term) != TERM_SORT) {
            throw new UnsupportedOperationException("a type and a term are needed");
        }
        requirePlaceToStage(name);
        return staging.put(name, false, type, term);
    }

    public int stageData(int name, boolean isUnique, int constructor)
        throws IllegalArgumentException, NoSuchElementException, UnsupportedOperationException, IllegalStateException {
        requireName(name);
        requireNode(constructor);
        if (nodes.sortAt(constructor) != CONSTRUCTOR_SORT) {
            throw new UnsupportedOperationException("a constructor is needed");
        }
        requirePlaceToStage(name);
        return staging.put(name, true, isUnique ? staging.nextUnique() : 0, constructor);
    }

    public int unstage() {
        int staged = staging.stagedCount();
        staging.clear();
        return staged;
    }

    public int define() throws IllegalStateException, UnsupportedOperationException {
        if (staging.stagedCount() == 0 || !staging.areNamesFree()) {
            throw new IllegalStateException("nothing is staged, or a name is not free");
        }
        if (staging.lookOver() != NOTHING) {
            throw new UnsupportedOperationException("what is staged has a fault");
        }
        int fresh = staging.settle();
        staging.giveNames();
        staging.clear();
        return fresh;
    }

    public int update() throws IllegalStateException, UnsupportedOperationException {
        if (staging.stagedCount() == 0 || !staging.haveNamesTheirKind() || patches.isFull()) {
            throw new IllegalStateException("nothing is staged, a name does not suit, or there are too many patches");
        }
        if (staging.lookOver() != NOTHING) {
            throw new UnsupportedOperationException("what is staged has a fault");
        }
        staging.settle();
        staging.noteChanges();
        staging.giveNames();
        carrier.begin(true);
        for (int i = 0; i < MOST_GROUPS && carrier.findGroup(); i++) {
            carrier.carryGroup();
        }
        patches.addChanges();
        for (int name = 0; name < NAMES; name++) {
            if (!staging.isStaged(name) || codebase.isCarried(branches.at(name))) {
                takeWhatItBecame(name);
            }
        }
        codebase.forgetChanges();
        staging.clear();
        return carrier.carriedCount();
    }

    public char fault() {
        return staging.lookOver();
    }

    public int faultName() throws NoSuchElementException {
        if (staging.lookOver() == NOTHING) {
            throw new NoSuchElementException("there is no fault");
        }
        return staging.nameOfFault();
    }

    public int todo() {
        return carrier.todoCount();
    }

    public int todoAt(int index) throws IndexOutOfBoundsException {
        int name = carrier.todoName(index);
        if (name == NONE) {
            throw new IndexOutOfBoundsException("no such name to do");
        }
        return name;
    }

    // Names and definitions

    public char kindOf(int name) throws IllegalArgumentException {
        requireName(name);
        int definition = branches.at(name);
        if (definition == NONE) {
            return NOTHING;
        }
        return codebase.isData(definition) ? 'd' : 't';
    }

    public long hash(int name) throws IllegalArgumentException, NoSuchElementException {
        return codebase.hashAt(definitionOf(name));
    }

    public long hashAnew(int name) throws IllegalArgumentException, NoSuchElementException {
        int definition = definitionOf(name);
        markReachable(definition);
        codebase.hashMarkedAnew(groups);
        return codebase.hashOf(definition, true);
    }

    public boolean needs(int name, int other) throws IllegalArgumentException, NoSuchElementException {
        requireName(name);
        requireName(other);
        int definition = definitionOf(name);
        int wanted = definitionOf(other);
        codebase.markAllNeededBy(definition);
        return codebase.isMarked(wanted);
    }

    public int needed(int name) throws IllegalArgumentException, NoSuchElementException {
        codebase.markAllNeededBy(definitionOf(name));
        return codebase.markedCount();
    }

    public int alias(int name, int other) throws IllegalArgumentException, NoSuchElementException {
        requireName(name);
        requireName(other);
        int definition = definitionOf(name);
        branches.give(other, definition);
        return branches.namesOf(definition);
    }

    public int unname(int name) throws IllegalArgumentException, NoSuchElementException {
        int definition = definitionOf(name);
        branches.give(name, NONE);
        return branches.namesOf(definition);
    }

    public int definitions() {
        return codebase.keptCount();
    }

    public int collect() {
        codebase.beginMarks();
        branches.markAll(codebase);
        patches.markAll();
        for (int job = 0; job < jobCount; job++) {
            if (jobStates[job] != 'd') {
                codebase.mark(jobDefinitions[job]);
            }
        }
        codebase.sweep();
        return codebase.dropUnmarked();
    }

    // Patches

    public int patches() {
        return patches.patchCount();
    }

    public int patchSize(int patch) throws NoSuchElementException {
        requirePatch(patch);
        return patches.sizeOf(patch);
    }

    public int apply(int patch) throws NoSuchElementException {
        requirePatch(patch);
        patches.noteChanges(patch);
        for (int name = 0; name < NAMES; name++) {
            before[name] = branches.at(name);
            takeWhatItBecame(name);
        }
        carrier.begin(false);
        for (int i = 0; i < MOST_GROUPS && carrier.findGroup(); i++) {
            carrier.carryGroup();
        }
        int changed = 0;
        for (int name = 0; name < NAMES; name++) {
            if (codebase.isCarried(branches.at(name))) {
                takeWhatItBecame(name);
            }
            changed += branches.at(name) == before[name] ? 0 : 1;
        }
        codebase.forgetChanges();
        return changed;
    }

    public int compose(int patch, int other) throws NoSuchElementException, IllegalStateException {
        requirePatch(patch);
        requirePatch(other);
        requirePlaceForPatch();
        return patches.addComposed(patch, other);
    }

    public int mergePatches(int patch, int other) throws NoSuchElementException, IllegalStateException {
        requirePatch(patch);
        requirePatch(other);
        requirePlaceForPatch();
        return patches.addMerged(patch, other);
    }

    // Branches and commits

    public int commit() throws IllegalStateException {
        requirePlaceForCommit();
        return branches.recordCommit(NONE);
    }

    public int branch() throws IllegalStateException {
        int made = branches.addBranch();
        if (made == NONE) {
            throw new IllegalStateException("there are too many branches");
        }
        return made;
    }

    public int goTo(int branch) throws NoSuchElementException {
        requireBranch(branch);
        return branches.enter(branch);
    }

    public int merge(int branch) throws NoSuchElementException, IllegalArgumentException, IllegalStateException {
        requireBranch(branch);
        if (branches.isPresent(branch)) {
            throw new IllegalArgumentException("it is the present branch");
        }
        requirePlaceForCommit();
        return branches.mergeIn(branch);
    }

    public int conflictAt(int index) throws IndexOutOfBoundsException {
        int name = branches.conflictName(index);
        if (name == NONE) {
            throw new IndexOutOfBoundsException("no such conflict");
        }
        return name;
    }

    public int ancestor(int commit, int other) throws NoSuchElementException, UnsupportedOperationException {
        if (!branches.hasCommit(commit) || !branches.hasCommit(other)) {
            throw new NoSuchElementException("no such commit");
        }
        int common = branches.commonAncestor(commit, other);
        if (common == NONE) {
            throw new UnsupportedOperationException("there is no common ancestor");
        }
        return common;
    }

    public int commits() {
        return branches.commitCount();
    }

    public int hashIn(int commit, int name) throws NoSuchElementException, IllegalArgumentException {
        if (!branches.hasCommit(commit)) {
            throw new NoSuchElementException("no such commit");
        }
        requireName(name);
        int definition = branches.atCommit(commit, name);
        if (definition == NONE) {
            throw new NoSuchElementException("the name has no definition in the commit");
        }
        return (int) (codebase.hashAt(definition) >>> 32);
    }

    // Working out, tests and jobs

    public char work(int name) throws IllegalArgumentException, NoSuchElementException, UnsupportedOperationException {
        return kindOfValue(worker.workOut(termOf(name)));
    }

    public int writeValue(int name)
        throws IllegalArgumentException, NoSuchElementException, UnsupportedOperationException {
        Cell value = worker.workOut(termOf(name));
        writer.clear();
        writer.value(value);
        return writer.lineLength();
    }

    public char test(int name) throws IllegalArgumentException, NoSuchElementException, UnsupportedOperationException {
        int definition = definitionOf(name);
        if (nodes.kindAt(codebase.typeNode(definition)) != 'j') {
            throw new UnsupportedOperationException("it is no int");
        }
        if (codebase.testedAs(definition) == 0) {
            testCount++;
            Cell value = worker.workOut(definition);
            codebase.noteTested(definition, value == null ? 'l' : value.number != 0 ? 'p' : 'n');
        }
        return codebase.testedAs(definition);
    }

    public int tests() {
        return testCount;
    }

    public int job(int machine, int name)
        throws IllegalArgumentException, NoSuchElementException, UnsupportedOperationException, IllegalStateException {
        requireMachine(machine);
        int definition = termOf(name);
        if (isDown(machine) || jobCount >= MOST_JOBS) {
            throw new IllegalStateException("the machine is down, or there are too many jobs");
        }
        jobDefinitions[jobCount] = definition;
        jobMachines[jobCount] = machine;
        jobStates[jobCount] = 'w';
        jobCount++;
        return jobCount - 1;
    }

    public int goOn(int machine) throws IllegalArgumentException, IllegalStateException, NoSuchElementException {
        requireMachine(machine);
        if (isDown(machine)) {
            throw new IllegalStateException("the machine is down");
        }
        int job = firstWaiting(machine);
        if (job == NONE) {
            throw new NoSuchElementException("no job waits on the machine");
        }
        int definition = jobDefinitions[job];
        int done = firstDone(definition);
        if (done == NONE) {
            markReachable(definition);
            sent += codebase.sendMarked(machine);
            Cell value = worker.workOut(definition);
            codebase.noteWorked(definition);
            jobOutcomes[job] = kindOfValue(value);
            jobNumbers[job] = value == null ? 0 : value.number;
        } else {
            jobOutcomes[job] = jobOutcomes[done];
            jobNumbers[job] = jobNumbers[done];
        }
        jobStates[job] = 'd';
        return job;
    }

    public char jobState(int job) throws NoSuchElementException {
        requireJob(job);
        return jobStates[job];
    }

    public char outcome(int job) throws NoSuchElementException, IllegalStateException {
        requireJob(job);
        requireDone(job);
        return jobOutcomes[job];
    }

    public int result(int job) throws NoSuchElementException, IllegalStateException, UnsupportedOperationException {
        requireJob(job);
        requireDone(job);
        if (jobOutcomes[job] != 'i') {
            throw new UnsupportedOperationException("no int came of the job");
        }
        return jobNumbers[job];
    }

    public int retry(int job, int machine)
        throws NoSuchElementException, IllegalArgumentException, IllegalStateException {
        requireJob(job);
        requireMachine(machine);
        if (jobStates[job] != 'f' || isDown(machine)) {
            throw new IllegalStateException("the job has not failed, or the machine is down");
        }
        jobStates[job] = 'w';
        jobMachines[job] = machine;
        return waitingOn(machine);
    }

    public int down(int machine) throws IllegalArgumentException, IllegalStateException {
        requireMachine(machine);
        if (isDown(machine)) {
            throw new IllegalStateException("the machine is down");
        }
        int failing = waitingOn(machine);
        for (int job = 0; job < jobCount; job++) {
            if (jobStates[job] == 'w' && jobMachines[job] == machine) {
                jobStates[job] = 'f';
            }
        }
        downMachines |= 1 << machine;
        codebase.emptyMachine(machine);
        return failing;
    }

    public boolean up(int machine) throws IllegalArgumentException {
        requireMachine(machine);
        boolean wasDown = isDown(machine);
        downMachines &= ~(1 << machine);
        return wasDown;
    }

    public int lacking(int machine, int name) throws IllegalArgumentException, NoSuchElementException {
        requireMachine(machine);
        markReachable(definitionOf(name));
        return codebase.markedWithout(machine);
    }

    public long traffic() {
        return sent;
    }

    // Writing and counting

    public int writeTerm(int name) throws IllegalArgumentException, NoSuchElementException {
        int definition = definitionOf(name);
        writer.clear();
        writer.body(definition);
        return writer.lineLength();
    }

    public int writeType(int name)
        throws IllegalArgumentException, NoSuchElementException, UnsupportedOperationException {
        int definition = termOf(name);
        writer.clear();
        writer.toldType(definition);
        return writer.lineLength();
    }

    public char lineAt(int index) throws IndexOutOfBoundsException {
        if (index < 0 || index >= writer.lineLength()) {
            throw new IndexOutOfBoundsException("no such character");
        }
        return writer.signAt(index);
    }

    public boolean isSound() {
        codebase.beginMarks();
        codebase.markKept();
        codebase.hashMarkedAnew(groups);
        return codebase.areMarkedSound(checker);
    }

    public float namedShare() throws ArithmeticException {
        int all = codebase.keptCount();
        if (all == 0) {
            throw new ArithmeticException("there are no definitions");
        }
        return (float) branches.namedCount() / (float) all;
    }

    public double meanNeeded() throws ArithmeticException {
        int named = branches.namedCount();
        if (named == 0) {
            throw new ArithmeticException("no definition has a name");
        }
        int sum = 0;
        for (int name = 0; name < NAMES; name++) {
            int definition = branches.at(name);
            if (definition != NONE && branches.lowestNameOf(definition) == name) {
                codebase.markAllNeededBy(definition);
                sum += codebase.markedCount();
            }
        }
        return (double) sum / (double) named;
    }

    // What the methods above ask for

    private static boolean isName(int name) {
        return name >= 0 && name < NAMES;
    }

    private static void requireName(int name) {
        if (!isName(name)) {
            throw new IllegalArgumentException("no such name");
        }
    }

    private void requireNode(int node) {
        if (!nodes.has(node)) {
            throw new NoSuchElementException("no such node");
        }
    }

    private void requirePlaceToStage(int name) {
        if (!staging.hasPlaceFor(name)) {
            throw new IllegalStateException("too many others are staged");
        }
    }

    private void requirePatch(int patch) {
        if (patch < 0 || patch >= patches.patchCount()) {
            throw new NoSuchElementException("no such patch");
        }
    }

    private void requirePlaceForPatch() {
        if (patches.isFull()) {
            throw new IllegalStateException("there are too many patches");
        }
    }

    private void requirePlaceForCommit() {
        if (branches.commitCount() >= MOST_COMMITS) {
            throw new IllegalStateException("there are too many commits");
        }
    }

    private void requireBranch(int branch) {
        if (!branches.hasBranch(branch)) {
            throw new NoSuchElementException("no such branch");
        }
    }

    private static void requireMachine(int machine) {
        if (machine < 0 || machine >= MACHINES) {
            throw new IllegalArgumentException("no such machine");
        }
    }

    private void requireJob(int job) {
        if (job < 0 || job >= jobCount) {
            throw new NoSuchElementException("no such job");
        }
    }

    private void requireDone(int job) {
        if (jobStates[job] != 'd') {
            throw new IllegalStateException("the job is not done");
        }
    }

    private int definitionOf(int name) {
        requireName(name);
        int definition = branches.at(name);
        if (definition == NONE) {
            throw new NoSuchElementException("no definition has this name");
        }
        return definition;
    }

    private int termOf(int name) {
        int definition = definitionOf(name);
        if (codebase.isData(definition)) {
            throw new UnsupportedOperationException("it is data");
        }
        return definition;
    }

    private void takeWhatItBecame(int name) {
        int became = codebase.became(branches.at(name));
        if (became != NONE) {
            branches.give(name, became);
        }
    }

    private void markReachable(int definition) {
        codebase.beginMarks();
        codebase.mark(definition);
        codebase.sweep();
    }

    private static char kindOfValue(Cell value) {
        return value == null ? 'l' : value.kind;
    }

    private boolean isDown(int machine) {
        return (downMachines >> machine & 1) != 0;
    }

    private int firstWaiting(int machine) {
        for (int job = 0; job < jobCount; job++) {
            if (jobStates[job] == 'w' && jobMachines[job] == machine) {
                return job;
            }
        }
        return NONE;
    }

    /** A job for which a definition was worked out before, NONE if there is none. */
    private int firstDone(int definition) {
        for (int job = 0; job < jobCount; job++) {
            if (jobStates[job] == 'd' && jobDefinitions[job] == definition) {
                return job;
            }
        }
        return NONE;
    }

    private int waitingOn(int machine) {
        int waiting = 0;
        for (int job = 0; job < jobCount; job++) {
            waiting += jobStates[job] == 'w' && jobMachines[job] == machine ? 1 : 0;
        }
        return waiting;
    }

    /** The nodes that were told, each with its depth, its weight and the names that stand in it. */
    private static final class Nodes {
        private final char[] kinds = new char[MOST_NODES];
        private final int[] as = new int[MOST_NODES];
        private final int[] bs = new int[MOST_NODES];
        private final int[] cs = new int[MOST_NODES];
        private final int[] depths = new int[MOST_NODES];
        private final int[] weights = new int[MOST_NODES];
        private final int[] dataNames = new int[MOST_NODES];
        private final int[] termNames = new int[MOST_NODES];
        private int count;

        boolean has(int node) {
            return node >= 0 && node < count;
        }

        char kindAt(int node) {
            return node >= 0 && node < count ? kinds[node] : NOTHING;
        }

        int aAt(int node) {
            return node >= 0 && node < count ? as[node] : NONE;
        }

        int bAt(int node) {
            return node >= 0 && node < count ? bs[node] : NONE;
        }

        int cAt(int node) {
            return node >= 0 && node < count ? cs[node] : NONE;
        }

        /** The names of data in a node and its operands, a bit for each. */
        int dataNamesAt(int node) {
            return node >= 0 && node < count ? dataNames[node] : 0;
        }

        int termNamesAt(int node) {
            return node >= 0 && node < count ? termNames[node] : 0;
        }

        char sortAt(int node) {
            switch (kindAt(node)) {
                case NOTHING:
                    return NOTHING;
                case 'j':
                case '>':
                case 'd':
                    return TYPE_SORT;
                case 'b':
                    return BRANCH_SORT;
                case '+':
                    return CONSTRUCTOR_SORT;
                default:
                    return TERM_SORT;
            }
        }

        /** A letter for each operand that says what it must be; no letters if there is no such kind. */
        private static String rolesOf(char kind) {
            switch (kind) {
                case 'j':
                case 'i':
                    return "---";
                case '>':
                    return "TT-";
                case 'd':
                case 'r':
                    return "n--";
                case 'v':
                    return "v--";
                case 'f':
                    return "Tt-";
                case 'a':
                case 'l':
                    return "tt-";
                case 'o':
                    return "tto";
                case '?':
                    return "ttt";
                case 'm':
                    return "nku";
                case 'c':
                    return "ntB";
                case 'b':
                    return "tX-";
                case '+':
                    return "UY-";
                default:
                    return "";
            }
        }

        boolean fits(char kind, int a, int b, int c) {
            String roles = rolesOf(kind);
            return roles.length() == 3 && fitsRole(roles.charAt(0), a) && fitsRole(roles.charAt(1), b)
                && fitsRole(roles.charAt(2), c);
        }

        private boolean fitsRole(char role, int operand) {
            switch (role) {
                case TYPE_SORT:
                case TERM_SORT:
                case BRANCH_SORT:
                    return sortAt(operand) == role;
                case 'U':
                    return operand == NONE || sortAt(operand) == TYPE_SORT;
                case 'u':
                    return operand == NONE || sortAt(operand) == TERM_SORT;
                case 'X':
                    return operand == NONE || sortAt(operand) == BRANCH_SORT;
                case 'Y':
                    return operand == NONE || sortAt(operand) == CONSTRUCTOR_SORT;
                case 'n':
                    return isName(operand);
                case 'v':
                    return operand >= 0 && operand <= MOST_VARIABLE;
                case 'k':
                    return operand >= 0 && operand < MOST_CONSTRUCTORS;
                case 'o':
                    return operand >= 0 && operand < OPERATORS;
                default:
                    return true;
            }
        }

        /** How much deeper a node is than an operand with this role, NONE if that is no node. */
        private static int stepOf(char role) {
            switch (role) {
                case TYPE_SORT:
                case TERM_SORT:
                case BRANCH_SORT:
                case 'U':
                case 'u':
                    return 1;
                case 'X':
                case 'Y':
                    return 0;
                default:
                    return NONE;
            }
        }

        /** Tells a node that fits; answers NONE if there are too many, or it is too deep or too heavy. */
        int tell(char kind, int a, int b, int c) {
            String roles = rolesOf(kind);
            if (count >= MOST_NODES || roles.length() != 3) {
                return NONE;
            }
            int depth = 1;
            int weight = 1;
            int data = kind == 'd' || kind == 'm' || kind == 'c' ? 1 << a : 0;
            int terms = kind == 'r' ? 1 << a : 0;
            for (int i = 0; i < 3; i++) {
                int operand = i == 0 ? a : i == 1 ? b : c;
                int step = stepOf(roles.charAt(i));
                if (step == NONE || !has(operand)) {
                    continue;
                }
                depth = Math.max(depth, depths[operand] + step);
                weight += weights[operand];
                data |= dataNames[operand];
                terms |= termNames[operand];
            }
            if (depth > MOST_DEPTH || weight > MOST_WEIGHT) {
                return NONE;
            }
            kinds[count] = kind;
            as[count] = a;
            bs[count] = b;
            cs[count] = c;
            depths[count] = depth;
            weights[count] = weight;
            dataNames[count] = data;
            termNames[count] = terms;
            count++;
            return count - 1;
        }
    }

    /**
     * A row of numbers, 0 at first, that grows by parts: what is there is never copied, so that a run
     * with many definitions stays in its room. The rows of a commons share the parts that are left.
     */
    private static final class Row {
        private final long[] numbers = new long[PART];
        private final Row[] further;
        private final int[] partsLeft;

        /** The further parts are null for a row that is a part itself. */
        Row(Row[] further, int[] partsLeft) {
            this.further = further;
            this.partsLeft = partsLeft;
        }

        long at(int index) {
            if (index >= 0 && index < PART) {
                return numbers[index];
            }
            int part = (index >> PART_BITS) - 1;
            if (further == null || part < 0 || part >= further.length || further[part] == null) {
                return 0;
            }
            return further[part].numbers[index & PART - 1];
        }

        /** Nothing is put if no part is left for it. */
        void put(int index, long number) {
            if (index >= 0 && index < PART) {
                numbers[index] = number;
                return;
            }
            int part = (index >> PART_BITS) - 1;
            if (further == null || part < 0 || part >= further.length) {
                return;
            }
            if (further[part] == null && partsLeft[0] > 0) {
                partsLeft[0]--;
                further[part] = new Row(null, partsLeft);
            }
            if (further[part] != null) {
                further[part].numbers[index & PART - 1] = number;
            }
        }
    }

    /**
     * The definitions, each a number: drafts first, then what is in the codebase, and what was dropped
     * from it while machines, tests or jobs still know its hash. A definition is nodes, and what the
     * names in them mean, data first, then terms; data itself stands for itself within it.
     *
     * <p>In the order each one stands behind those that it needs, but for what was settled together;
     * this begins with one that has the bit START, and is in the order of its places. What was settled
     * as a group need not be one: a member can have a hash that was there before.
     */
    private static final class Codebase {
        private static final int HASH = 0;
        private static final int ANEW = 1;
        private static final int SHAPE = 2;
        private static final int NAMES_USED = 3;
        private static final int MEANT = 4;
        private static final int STATE = 5;
        private static final int NEXT = 6;
        private static final int MARK = 7;
        private static final int BECAME = 8;
        private static final int FOLLOW = 9;
        private static final int FIELDS = 10;

        private static final long KEPT = 1;
        private static final long START = 2;
        private static final long CARRIED = 4;
        private static final long WORKED = 8;
        private static final int MACHINE_SHIFT = 4;
        private static final int TEST_SHIFT = 8;
        private static final long CHARACTER = 0xFFFF;

        private final Nodes nodes;
        private final int[] partsLeft = {MOST_PARTS};
        private final Row facts = new Row(new Row[MOST_PARTS], partsLeft);
        private final Row meanings = new Row(new Row[MOST_PARTS], partsLeft);
        private final Row order = new Row(new Row[MOST_PARTS], partsLeft);
        private final Row buckets = new Row(new Row[MOST_PARTS], partsLeft);
        private final int[] settled = new int[DRAFTS];
        private int bucketCount = PART;
        private int rows = DRAFTS;
        private int free;
        private int kept;
        private int meaningEnd = DRAFTS * 2 * NAMES;
        private long stamp;

        Codebase(Nodes nodes) {
            this.nodes = nodes;
        }

        /** A row that shares the parts. */
        Row furtherRow() {
            return new Row(new Row[MOST_PARTS], partsLeft);
        }

        // What a definition says

        /** Shapes a draft; data has a number of its own, or 0, where a term has its type. */
        void shape(int draft, boolean isData, int typeOrOwn, int term) {
            int type = isData ? NONE : typeOrOwn;
            long data = nodes.dataNamesAt(type) | nodes.dataNamesAt(term);
            facts.put(draft * FIELDS + SHAPE, (long) typeOrOwn << 32 | (long) term << 1 | (isData ? 1 : 0));
            facts.put(draft * FIELDS + NAMES_USED, data << 32 | nodes.termNamesAt(term));
            facts.put(draft * FIELDS + MEANT, draft * 2L * NAMES);
        }

        boolean isData(int definition) {
            return (facts.at(definition * FIELDS + SHAPE) & 1) != 0;
        }

        /** The number of its own that data has, 0 for none. */
        int ownOf(int data) {
            return (int) (facts.at(data * FIELDS + SHAPE) >> 32);
        }

        int typeNode(int term) {
            long shape = facts.at(term * FIELDS + SHAPE);
            return term < 0 || (shape & 1) != 0 ? NONE : (int) (shape >> 32);
        }

        int termNode(int definition) {
            return definition < 0 ? NONE : (int) facts.at(definition * FIELDS + SHAPE) >> 1;
        }

        int dataNames(int definition) {
            return (int) (facts.at(definition * FIELDS + NAMES_USED) >> 32);
        }

        int termNames(int definition) {
            return (int) facts.at(definition * FIELDS + NAMES_USED);
        }

        /** What a name of data means in a definition, NONE if it is not in it. */
        int dataAt(int definition, int name) {
            int data = (int) (facts.at(definition * FIELDS + NAMES_USED) >> 32);
            if (!isName(name) || (data >> name & 1) == 0) {
                return NONE;
            }
            int start = (int) facts.at(definition * FIELDS + MEANT);
            return (int) meanings.at(start + Integer.bitCount(data & (1 << name) - 1));
        }

        int termAt(int definition, int name) {
            long used = facts.at(definition * FIELDS + NAMES_USED);
            int terms = (int) used;
            if (!isName(name) || (terms >> name & 1) == 0) {
                return NONE;
            }
            int start = (int) facts.at(definition * FIELDS + MEANT) + Integer.bitCount((int) (used >> 32));
            return (int) meanings.at(start + Integer.bitCount(terms & (1 << name) - 1));
        }

        int meaningCount(int definition) {
            return Long.bitCount(facts.at(definition * FIELDS + NAMES_USED));
        }

        int meaning(int definition, int slot) {
            return (int) meanings.at((int) facts.at(definition * FIELDS + MEANT) + slot);
        }

        void setMeaning(int draft, int slot, int meaning) {
            meanings.put(draft * 2 * NAMES + slot, meaning);
        }

        /** Whether another one, or itself, is needed at first hand; data do not need themselves. */
        boolean uses(int definition, int other) {
            if (definition == other && isData(definition)) {
                return false;
            }
            int count = meaningCount(definition);
            for (int slot = 0; slot < count; slot++) {
                if (meaning(definition, slot) == other) {
                    return true;
                }
            }
            return false;
        }

        boolean usesChanged(int definition) {
            int count = meaningCount(definition);
            for (int slot = 0; slot < count; slot++) {
                if (became(meaning(definition, slot)) != NONE) {
                    return true;
                }
            }
            return false;
        }

        // Hashes

        long hashAt(int definition) {
            return facts.at(definition * FIELDS + HASH);
        }

        /** The hash, or the one that was found anew last. */
        long hashOf(int definition, boolean isAnew) {
            return facts.at(definition * FIELDS + (isAnew ? ANEW : HASH));
        }

        void setHash(int definition, long hash, boolean isAnew) {
            facts.put(definition * FIELDS + (isAnew ? ANEW : HASH), hash);
        }

        private int bucketOf(long hash) {
            return (int) (hash ^ hash >>> 32) & bucketCount - 1;
        }

        private int find(long hash) {
            int found = (int) buckets.at(bucketOf(hash));
            for (int i = 0; i < rows && found != 0; i++) {
                if (facts.at(found * FIELDS + HASH) == hash) {
                    return found;
                }
                found = (int) facts.at(found * FIELDS + NEXT);
            }
            return NONE;
        }

        private void link(int row) {
            int bucket = bucketOf(hashAt(row));
            facts.put(row * FIELDS + NEXT, buckets.at(bucket));
            buckets.put(bucket, row);
        }

        // What is kept

        int keptCount() {
            return kept;
        }

        int at(int index) {
            return index >= 0 && index < kept ? (int) order.at(index) : NONE;
        }

        /** Whether further definitions, or as many parts of patches, leave enough for what is staged. */
        boolean hasRoomFor(int more, int reserve) {
            return partsLeft[0] - (more >> PART_BITS) > reserve;
        }

        /** Keeps the members of a group that is hashed, each hash once; answers how many are new. */
        int settle(Groups groups) {
            int before = kept;
            int fresh = 0;
            for (int i = 0; i < groups.size(); i++) {
                int draft = groups.member(i);
                int there = find(hashAt(draft));
                if (there == NONE || (facts.at(there * FIELDS + STATE) & KEPT) == 0) {
                    there = append(there, draft, kept == before);
                    fresh |= 1 << i;
                }
                if (draft >= 0 && draft < DRAFTS) {
                    settled[draft] = there;
                }
            }
            for (int i = 0; i < groups.size(); i++) {
                if ((fresh >> i & 1) != 0) {
                    takeMeanings(groups.member(i));
                }
            }
            return kept - before;
        }

        /** What is kept for a draft that was settled; others are what they are. */
        int settledFor(int definition) {
            return definition >= 0 && definition < DRAFTS ? settled[definition] : definition;
        }

        /** Keeps a draft; one with its hash that was dropped is what the draft is then. */
        private int append(int dropped, int draft, boolean isStart) {
            if (partsLeft[0] < LEAST_PARTS) {
                return NONE;
            }
            int row = dropped;
            if (row == NONE) {
                if (rows > ROWS_IN_BUCKET * bucketCount && hasRoomFor(bucketCount, CARRY_RESERVE)) {
                    bucketCount *= 2;
                    linkAnew();
                }
                row = newRow();
                facts.put(row * FIELDS + HASH, hashAt(draft));
                link(row);
            }
            long state = facts.at(row * FIELDS + STATE);
            facts.put(row * FIELDS + STATE, state | KEPT | (isStart ? START : 0));
            facts.put(row * FIELDS + SHAPE, facts.at(draft * FIELDS + SHAPE));
            facts.put(row * FIELDS + NAMES_USED, facts.at(draft * FIELDS + NAMES_USED));
            order.put(kept, row);
            kept++;
            return row;
        }

        private int newRow() {
            int row = free;
            if (row != 0) {
                free = (int) facts.at(row * FIELDS + NEXT);
                return row;
            }
            rows++;
            return rows - 1;
        }

        private void takeMeanings(int draft) {
            int row = settledFor(draft);
            if (row == NONE) {
                return;
            }
            int count = meaningCount(draft);
            for (int slot = 0; slot < count; slot++) {
                meanings.put(meaningEnd + slot, settledFor(meaning(draft, slot)));
            }
            facts.put(row * FIELDS + MEANT, meaningEnd);
            meaningEnd += count;
        }

        /** Drops what is not marked; what stays moves together, in its order. */
        int dropUnmarked() {
            int before = kept;
            boolean isStart = false;
            kept = 0;
            meaningEnd = DRAFTS * 2 * NAMES;
            for (int i = 0; i < before; i++) {
                int row = (int) order.at(i);
                long state = facts.at(row * FIELDS + STATE);
                isStart = isStart || (state & START) != 0;
                if (isMarked(row)) {
                    facts.put(row * FIELDS + STATE, isStart ? state | START : state);
                    isStart = false;
                    moveMeanings(row);
                    order.put(kept, row);
                    kept++;
                } else {
                    facts.put(row * FIELDS + STATE, state & ~(KEPT | START));
                }
            }
            linkAnew();
            return before - kept;
        }

        private void moveMeanings(int row) {
            int count = meaningCount(row);
            for (int slot = 0; slot < count; slot++) {
                meanings.put(meaningEnd + slot, meaning(row, slot));
            }
            facts.put(row * FIELDS + MEANT, meaningEnd);
            meaningEnd += count;
        }

        /** Frees what was dropped, but for hashes that tests, jobs or machines know. */
        private void linkAnew() {
            for (int i = 0; i < bucketCount; i++) {
                buckets.put(i, 0);
            }
            free = 0;
            for (int row = rows - 1; row >= DRAFTS; row--) {
                if (facts.at(row * FIELDS + STATE) != 0) {
                    link(row);
                } else {
                    facts.put(row * FIELDS + NEXT, free);
                    free = row;
                }
            }
        }

        // Marks

        void beginMarks() {
            stamp++;
        }

        void mark(int definition) {
            if (definition >= 0) {
                facts.put(definition * FIELDS + MARK, stamp);
            }
        }

        boolean isMarked(int definition) {
            return definition >= 0 && facts.at(definition * FIELDS + MARK) == stamp;
        }

        private void markUsed(int definition) {
            int count = meaningCount(definition);
            boolean isData = isData(definition);
            for (int slot = 0; slot < count; slot++) {
                int used = meaning(definition, slot);
                if (!isData || used != definition) {
                    mark(used);
                }
            }
        }

        void markAllNeededBy(int definition) {
            stamp++;
            markUsed(definition);
            sweep();
        }

        void markKept() {
            for (int i = 0; i < kept; i++) {
                mark(at(i));
            }
        }

        /** Whether what was settled together begins at an index. */
        boolean isStart(int index) {
            return (facts.at(at(index) * FIELDS + STATE) & START) != 0;
        }

        /** The index behind what was settled together from an index on. */
        int endFrom(int start) {
            int end = start + 1;
            while (end < kept && !isStart(end)) {
                end++;
            }
            return end;
        }

        /** One way through the order is enough: whatever is needed stands ahead, or was settled together. */
        void sweep() {
            int end = kept;
            for (int start = kept - 1; start >= 0; start--) {
                if (isStart(start)) {
                    spread(start, end);
                    end = start;
                }
            }
        }

        /** Among those settled together marks go to and fro, at most once for each of them. */
        private void spread(int start, int end) {
            for (int round = start; round < end; round++) {
                for (int i = start; i < end; i++) {
                    if (isMarked(at(i))) {
                        markUsed(at(i));
                    }
                }
            }
        }

        int markedCount() {
            int count = 0;
            for (int i = 0; i < kept; i++) {
                count += isMarked(at(i)) ? 1 : 0;
            }
            return count;
        }

        // What machines, tests and jobs know

        int markedWithout(int machine) {
            int count = 0;
            for (int i = 0; i < kept; i++) {
                int row = at(i);
                boolean isThere = (facts.at(row * FIELDS + STATE) >> MACHINE_SHIFT + machine & 1) != 0;
                count += isMarked(row) && !isThere ? 1 : 0;
            }
            return count;
        }

        int sendMarked(int machine) {
            int count = markedWithout(machine);
            for (int i = 0; i < kept; i++) {
                int row = at(i);
                if (isMarked(row)) {
                    setState(row, 1L << MACHINE_SHIFT + machine);
                }
            }
            return count;
        }

        void emptyMachine(int machine) {
            long all = ~(1L << MACHINE_SHIFT + machine);
            for (int row = DRAFTS; row < rows; row++) {
                facts.put(row * FIELDS + STATE, facts.at(row * FIELDS + STATE) & all);
            }
        }

        private void setState(int definition, long bits) {
            facts.put(definition * FIELDS + STATE, facts.at(definition * FIELDS + STATE) | bits);
        }

        void noteWorked(int definition) {
            setState(definition, WORKED);
        }

        /** The outcome of its test, 0 if there was none. */
        char testedAs(int definition) {
            return (char) (facts.at(definition * FIELDS + STATE) >> TEST_SHIFT & CHARACTER);
        }

        void noteTested(int definition, char outcome) {
            setState(definition, (long) outcome << TEST_SHIFT);
        }

        // Changes

        /** What its hash becomes by what is going on, NONE if it stays. */
        int became(int definition) {
            int to = definition < 0 ? 0 : (int) facts.at(definition * FIELDS + BECAME);
            return to == 0 ? NONE : to;
        }

        void setBecame(int definition, int to) {
            if (definition >= 0) {
                facts.put(definition * FIELDS + BECAME, to < 0 ? 0 : to);
            }
        }

        boolean isCarried(int definition) {
            return definition >= 0 && (facts.at(definition * FIELDS + STATE) & CARRIED) != 0;
        }

        void setCarried(int definition, int to) {
            setBecame(definition, to);
            setState(definition, CARRIED);
        }

        /** What a patch keeps with it, NONE for nothing. */
        int follow(int definition) {
            int to = definition < 0 ? 0 : (int) facts.at(definition * FIELDS + FOLLOW);
            return to == 0 ? NONE : to;
        }

        void setFollow(int definition, int to) {
            facts.put(definition * FIELDS + FOLLOW, to < 0 ? 0 : to);
        }

        void forgetChanges() {
            for (int i = 0; i < kept; i++) {
                int row = at(i);
                facts.put(row * FIELDS + BECAME, 0);
                facts.put(row * FIELDS + STATE, facts.at(row * FIELDS + STATE) & ~CARRIED);
            }
        }

        /** Makes a draft say what a definition says, each hash in it replaced once. */
        void copyReplaced(int definition, int draft, int[] originals, int count) {
            long shape = facts.at(definition * FIELDS + SHAPE);
            shape(draft, (shape & 1) != 0, (int) (shape >> 32), (int) shape >> 1);
            int used = meaningCount(definition);
            for (int slot = 0; slot < used; slot++) {
                int meaning = meaning(definition, slot);
                int to = became(meaning) != NONE ? became(meaning) : meaning;
                for (int i = 0; i < count && i < originals.length; i++) {
                    to = originals[i] == meaning ? FIRST_COPY + i : to;
                }
                setMeaning(draft, slot, to);
            }
        }

        // Finding anew

        void hashMarkedAnew(Groups groups) {
            groups.setAnew(true);
            for (int start = 0; start < kept; start++) {
                if (!isStart(start)) {
                    continue;
                }
                int end = endFrom(start);
                groups.clear();
                for (int i = start; i < end; i++) {
                    if (isMarked(at(i))) {
                        groups.add(at(i));
                    }
                }
                groups.connect();
                for (int i = 0; i < MOST_STAGED && groups.nextGroup(); i++) {
                    groups.hashMembers();
                }
            }
            groups.setAnew(false);
        }

        boolean areMarkedSound(Checker checker) {
            for (int i = 0; i < kept; i++) {
                int row = at(i);
                if (isMarked(row)
                    && (hashAt(row) != hashOf(row, true) || !isData(row) && !checker.hasItsType(row))) {
                    return false;
                }
            }
            return true;
        }
    }

    /** Parts at most eight definitions into groups that need one another, and hashes these. */
    private static final class Groups {
        private final Nodes nodes;
        private final Codebase codebase;
        private final int[] items = new int[MOST_STAGED];
        private final int[] reach = new int[MOST_STAGED];
        private final int[] members = new int[MOST_STAGED];
        private final long[] keys = new long[MOST_STAGED];
        private int itemCount;
        private int memberCount;
        private int left;
        private boolean isAnew;

        Groups(Nodes nodes, Codebase codebase) {
            this.nodes = nodes;
            this.codebase = codebase;
        }

        /** Whether hashes are found anew from what was found anew, beside those that are kept. */
        void setAnew(boolean isAnew) {
            this.isAnew = isAnew;
        }

        void clear() {
            itemCount = 0;
            memberCount = 0;
            left = 0;
        }

        void add(int definition) {
            if (itemCount < MOST_STAGED) {
                items[itemCount] = definition;
                itemCount++;
            }
        }

        int size() {
            return memberCount;
        }

        int member(int index) {
            return index >= 0 && index < memberCount ? members[index] : NONE;
        }

        void setMember(int index, int definition) {
            if (index >= 0 && index < memberCount) {
                members[index] = definition;
            }
        }

        /** Finds which items need which, over others or not, among themselves. */
        void connect() {
            for (int i = 0; i < itemCount; i++) {
                reach[i] = 0;
                for (int j = 0; j < itemCount; j++) {
                    reach[i] |= codebase.uses(items[i], items[j]) ? 1 << j : 0;
                }
            }
            for (int over = 0; over < itemCount; over++) {
                for (int i = 0; i < itemCount; i++) {
                    reach[i] |= (reach[i] >> over & 1) != 0 ? reach[over] : 0;
                }
            }
            left = (1 << itemCount) - 1;
        }

        /** Makes the members those of the first group that needs no group which is still left. */
        boolean nextGroup() {
            for (int i = 0; i < itemCount; i++) {
                int group = groupOf(i);
                if ((left >> i & 1) != 0 && (reach[i] & left & ~group) == 0) {
                    left &= ~group;
                    gather(group);
                    return true;
                }
            }
            return false;
        }

        private int groupOf(int index) {
            int group = 1 << index;
            for (int other = 0; other < itemCount; other++) {
                if ((reach[index] >> other & 1) != 0 && (reach[other] >> index & 1) != 0) {
                    group |= 1 << other;
                }
            }
            return group;
        }

        private void gather(int group) {
            memberCount = 0;
            for (int i = 0; i < itemCount; i++) {
                if ((group >> i & 1) != 0) {
                    members[memberCount] = items[i];
                    memberCount++;
                }
            }
        }

        /** Makes one definition the only member, without a look at what it needs. */
        void setOnly(int definition) {
            members[0] = definition;
            memberCount = 1;
        }

        /**
         * Hashes the members, which stand in the order of their places then. Those with the same rows
         * keep the order in which they were gathered.
         */
        void hashMembers() {
            if (memberCount == 1 && !codebase.uses(members[0], members[0])) {
                codebase.setHash(members[0], rowOf(ROW_START, members[0], false), isAnew);
                return;
            }
            for (int i = 0; i < memberCount; i++) {
                int member = members[i];
                long key = rowOf(ROW_START, member, true);
                int at = i;
                while (at > 0 && keys[at - 1] > key) {
                    keys[at] = keys[at - 1];
                    members[at] = members[at - 1];
                    at--;
                }
                keys[at] = key;
                members[at] = member;
            }
            long whole = mix(mix(ROW_START, 32), memberCount);
            for (int i = 0; i < memberCount; i++) {
                whole = rowOf(whole, members[i], false);
            }
            for (int i = 0; i < memberCount; i++) {
                codebase.setHash(members[i], mix(mix(mix(ROW_START, 33), whole), i), isAnew);
            }
        }

        private static long mix(long row, long number) {
            return ((row << 5 | row >>> 59) ^ number) * ROW_FACTOR;
        }

        private long rowOf(long row, int definition, boolean isPlaceless) {
            if (codebase.isData(definition)) {
                return dataRow(row, definition);
            }
            long typed = typeRow(mix(row, 31), codebase.typeNode(definition), definition, 0);
            return termRow(typed, codebase.termNode(definition), definition, isPlaceless, 0);
        }

        private long dataRow(long start, int data) {
            int constructors = 0;
            int at = codebase.termNode(data);
            for (int i = 0; i < MOST_WEIGHT && at >= 0; i++) {
                constructors++;
                at = nodes.bAt(at);
            }
            long row = mix(mix(mix(start, 30), codebase.ownOf(data)), constructors);
            at = codebase.termNode(data);
            for (int i = 0; i < constructors; i++) {
                int argument = nodes.aAt(at);
                row = argument < 0 ? mix(row, 0) : typeRow(mix(row, 1), argument, data, 0);
                at = nodes.bAt(at);
            }
            return row;
        }

        private long typeRow(long row, int node, int in, int depth) {
            if (depth > DEEPEST) {
                return row;
            }
            switch (nodes.kindAt(node)) {
                case '>':
                    long from = typeRow(mix(row, 2), nodes.aAt(node), in, depth + 1);
                    return typeRow(from, nodes.bAt(node), in, depth + 1);
                case 'd':
                    int data = codebase.dataAt(in, nodes.aAt(node));
                    return data == in ? mix(row, 4) : mix(mix(row, 3), codebase.hashOf(data, isAnew));
                default:
                    return mix(row, 1);
            }
        }

        private long termRow(long row, int node, int in, boolean isPlaceless, int depth) {
            if (depth > DEEPEST) {
                return row;
            }
            int a = nodes.aAt(node);
            int b = nodes.bAt(node);
            int c = nodes.cAt(node);
            long next;
            switch (nodes.kindAt(node)) {
                case 'i':
                    return mix(mix(row, 11), a);
                case 'v':
                    return mix(mix(row, 12), a);
                case 'f':
                    next = typeRow(mix(row, 13), a, in, depth + 1);
                    return termRow(next, b, in, isPlaceless, depth + 1);
                case 'a':
                    next = termRow(mix(row, 14), a, in, isPlaceless, depth + 1);
                    return termRow(next, b, in, isPlaceless, depth + 1);
                case 'o':
                    next = termRow(mix(mix(row, 15), c), a, in, isPlaceless, depth + 1);
                    return termRow(next, b, in, isPlaceless, depth + 1);
                case '?':
                    next = termRow(mix(row, 16), a, in, isPlaceless, depth + 1);
                    next = termRow(next, b, in, isPlaceless, depth + 1);
                    return termRow(next, c, in, isPlaceless, depth + 1);
                case 'l':
                    next = termRow(mix(row, 17), a, in, isPlaceless, depth + 1);
                    return termRow(next, b, in, isPlaceless, depth + 1);
                case 'r':
                    return nameRow(row, codebase.termAt(in, a), isPlaceless);
                case 'm':
                    next = mix(mix(mix(row, 20), codebase.hashOf(codebase.dataAt(in, a), isAnew)), b);
                    return c < 0 ? next : termRow(next, c, in, isPlaceless, depth + 1);
                case 'c':
                    next = mix(mix(row, 21), codebase.hashOf(codebase.dataAt(in, a), isAnew));
                    next = termRow(next, b, in, isPlaceless, depth + 1);
                    return branchRows(next, c, in, isPlaceless, depth + 1);
                default:
                    return row;
            }
        }

        private long nameRow(long row, int named, boolean isPlaceless) {
            for (int place = 0; place < memberCount; place++) {
                if (members[place] == named) {
                    return mix(mix(row, 19), isPlaceless ? 0 : place);
                }
            }
            return mix(mix(row, 18), codebase.hashOf(named, isAnew));
        }

        private long branchRows(long row, int node, int in, boolean isPlaceless, int depth) {
            long next = row;
            int at = node;
            for (int i = 0; i < MOST_WEIGHT && at >= 0; i++) {
                next = termRow(next, nodes.aAt(at), in, isPlaceless, depth + 1);
                at = nodes.bAt(at);
            }
            return next;
        }
    }

    /** A type, a value or a variable that is bound; cells are made once and used again in each call. */
    private static final class Cell {
        private char kind;
        private int number;
        private int node;
        private int definition;
        /** From what a function type is, an argument that is had, the scope of a function, or what is bound. */
        private Cell inner;
        /** To what a function type is, or the scope outside of this one. */
        private Cell outer;
        private Cell after;

        Cell following(char nextKind) {
            if (after == null) {
                after = new Cell();
            }
            after.kind = nextKind;
            after.number = 0;
            after.node = NONE;
            after.definition = NONE;
            after.inner = null;
            after.outer = null;
            return after;
        }
    }

    /** Finds the types of terms. */
    private static final class Checker {
        private final Nodes nodes;
        private final Codebase codebase;
        private final Cell[] bound = new Cell[DEEPEST];
        private final Cell first = new Cell();
        private Cell last;

        Checker(Nodes nodes, Codebase codebase) {
            this.nodes = nodes;
            this.codebase = codebase;
            last = first;
        }

        boolean hasItsType(int term) {
            last = first;
            Cell told = typeOf(codebase.typeNode(term), term, 0);
            Cell found = infer(codebase.termNode(term), term, 0, 0);
            return isSame(told, found, 0);
        }

        private Cell typeOf(int node, int in, int depth) {
            if (depth > DEEPEST) {
                return null;
            }
            switch (nodes.kindAt(node)) {
                case 'j':
                    last = last.following('j');
                    return last;
                case '>':
                    Cell from = typeOf(nodes.aAt(node), in, depth + 1);
                    Cell to = typeOf(nodes.bAt(node), in, depth + 1);
                    last = last.following('>');
                    last.inner = from;
                    last.outer = to;
                    return last;
                case 'd':
                    last = last.following('d');
                    last.definition = codebase.dataAt(in, nodes.aAt(node));
                    return last;
                default:
                    return null;
            }
        }

        private Cell intType() {
            last = last.following('j');
            return last;
        }

        private Cell functionType(Cell from, Cell to) {
            if (from == null || to == null) {
                return null;
            }
            last = last.following('>');
            last.inner = from;
            last.outer = to;
            return last;
        }

        private Cell dataType(int data) {
            last = last.following('d');
            last.definition = data;
            return last;
        }

        /** What a function is to can be a long chain, so only what it is from is a recursion. */
        private boolean isSame(Cell type, Cell other, int depth) {
            Cell one = type;
            Cell two = other;
            for (int i = 0; i < MOST_STEPS && depth <= DEEPEST && one != null && two != null; i++) {
                if (one == two) {
                    return true;
                }
                if (one.kind != two.kind) {
                    return false;
                }
                if (one.kind == 'd') {
                    return codebase.hashAt(one.definition) == codebase.hashAt(two.definition);
                }
                if (one.kind != '>') {
                    return true;
                }
                if (!isSame(one.inner, two.inner, depth + 1)) {
                    return false;
                }
                one = one.outer;
                two = two.outer;
            }
            return false;
        }

        private static boolean isInt(Cell type) {
            return type != null && type.kind == 'j';
        }

        private boolean isOf(Cell type, int data) {
            return type != null && type.kind == 'd' && codebase.hashAt(type.definition) == codebase.hashAt(data);
        }

        /** Answers null if there is a fault. */
        private Cell infer(int node, int in, int binders, int depth) {
            if (depth > DEEPEST) {
                return null;
            }
            int a = nodes.aAt(node);
            int b = nodes.bAt(node);
            switch (nodes.kindAt(node)) {
                case 'i':
                    return intType();
                case 'v':
                    return a >= 0 && a < binders && binders <= bound.length ? bound[binders - 1 - a] : null;
                case 'f':
                    Cell from = typeOf(a, in, 0);
                    return functionType(from, inferInside(from, b, in, binders, depth + 1));
                case 'a':
                    return inferApplication(node, in, binders, depth + 1);
                case 'o':
                    boolean areInts = isInt(infer(a, in, binders, depth + 1));
                    areInts = areInts && isInt(infer(b, in, binders, depth + 1));
                    return areInts ? intType() : null;
                case '?':
                    return inferChoice(node, in, binders, depth + 1);
                case 'l':
                    return inferInside(infer(a, in, binders, depth + 1), b, in, binders, depth + 1);
                case 'r':
                    int named = codebase.termAt(in, a);
                    return typeOf(codebase.typeNode(named), named, 0);
                case 'm':
                    return inferConstructor(node, in, binders, depth + 1);
                case 'c':
                    return inferBranches(node, in, binders, depth + 1);
                default:
                    return null;
            }
        }

        private Cell inferInside(Cell type, int node, int in, int binders, int depth) {
            if (type == null || binders >= bound.length) {
                return null;
            }
            bound[binders] = type;
            return infer(node, in, binders + 1, depth);
        }

        private Cell inferApplication(int node, int in, int binders, int depth) {
            Cell function = infer(nodes.aAt(node), in, binders, depth);
            if (function == null || function.kind != '>') {
                return null;
            }
            Cell argument = infer(nodes.bAt(node), in, binders, depth);
            return isSame(function.inner, argument, 0) ? function.outer : null;
        }

        private Cell inferChoice(int node, int in, int binders, int depth) {
            if (!isInt(infer(nodes.aAt(node), in, binders, depth))) {
                return null;
            }
            Cell one = infer(nodes.bAt(node), in, binders, depth);
            Cell other = infer(nodes.cAt(node), in, binders, depth);
            return isSame(one, other, 0) ? one : null;
        }

        private Cell inferConstructor(int node, int in, int binders, int depth) {
            int data = codebase.dataAt(in, nodes.aAt(node));
            if (!codebase.isData(data)) {
                return null;
            }
            int constructor = codebase.termNode(data);
            for (int i = 0; i < nodes.bAt(node) && constructor >= 0; i++) {
                constructor = nodes.bAt(constructor);
            }
            int argument = nodes.aAt(constructor);
            int given = nodes.cAt(node);
            if (constructor < 0 || (argument < 0) != (given < 0)) {
                return null;
            }
            if (given >= 0 && !isSame(typeOf(argument, data, 0), infer(given, in, binders, depth), 0)) {
                return null;
            }
            return dataType(data);
        }

        private Cell inferBranches(int node, int in, int binders, int depth) {
            int data = codebase.dataAt(in, nodes.aAt(node));
            if (!codebase.isData(data) || !isOf(infer(nodes.bAt(node), in, binders, depth), data)) {
                return null;
            }
            int branch = nodes.cAt(node);
            int constructor = codebase.termNode(data);
            Cell common = null;
            for (int i = 0; i < MOST_WEIGHT && branch >= 0 && constructor >= 0; i++) {
                int argument = nodes.aAt(constructor);
                int term = nodes.aAt(branch);
                Cell found = argument < 0 ? infer(term, in, binders, depth)
                    : inferInside(typeOf(argument, data, 0), term, in, binders, depth);
                if (found == null || common != null && !isSame(common, found, 0)) {
                    return null;
                }
                common = found;
                branch = nodes.bAt(branch);
                constructor = nodes.bAt(constructor);
            }
            return branch < 0 && constructor < 0 ? common : null;
        }
    }

    /** The names of each branch, and what the commits keep of them. */
    private static final class Branches {
        private final int[] names = new int[MOST_BRANCHES * NAMES];
        private final int[] lastCommits = new int[MOST_BRANCHES];
        private final int[] committed = new int[MOST_COMMITS * NAMES];
        private final int[] parents = new int[2 * MOST_COMMITS];
        private final boolean[] isConflict = new boolean[NAMES];
        private int branchCount = 1;
        private int present;
        private int commitsMade;

        Branches() {
            lastCommits[0] = NONE;
            Arrays.fill(names, NONE);
            Arrays.fill(committed, NONE);
        }

        /** The definition to which a name belongs, NONE for none. */
        int at(int name) {
            return isName(name) ? names[present * NAMES + name] : NONE;
        }

        void give(int name, int definition) {
            if (isName(name)) {
                names[present * NAMES + name] = definition;
            }
        }

        int namesOf(int definition) {
            int count = 0;
            for (int name = 0; name < NAMES; name++) {
                count += names[present * NAMES + name] == definition ? 1 : 0;
            }
            return count;
        }

        int lowestNameOf(int definition) {
            for (int name = 0; name < NAMES; name++) {
                if (names[present * NAMES + name] == definition) {
                    return name;
                }
            }
            return NONE;
        }

        /** How many definitions have names in the present branch. */
        int namedCount() {
            int count = 0;
            for (int name = 0; name < NAMES; name++) {
                int definition = at(name);
                count += definition != NONE && lowestNameOf(definition) == name ? 1 : 0;
            }
            return count;
        }

        void markNames(Codebase codebase) {
            for (int name = 0; name < NAMES; name++) {
                codebase.mark(at(name));
            }
        }

        void markAll(Codebase codebase) {
            for (int i = 0; i < names.length; i++) {
                codebase.mark(names[i]);
            }
            for (int i = 0; i < committed.length; i++) {
                codebase.mark(committed[i]);
            }
        }

        boolean hasBranch(int branch) {
            return branch >= 0 && branch < branchCount;
        }

        boolean isPresent(int branch) {
            return branch == present;
        }

        int addBranch() {
            if (branchCount >= MOST_BRANCHES) {
                return NONE;
            }
            for (int name = 0; name < NAMES; name++) {
                names[branchCount * NAMES + name] = names[present * NAMES + name];
            }
            lastCommits[branchCount] = lastCommits[present];
            branchCount++;
            return branchCount - 1;
        }

        int enter(int branch) {
            int left = present;
            if (hasBranch(branch)) {
                present = branch;
            }
            return left;
        }

        boolean hasCommit(int commit) {
            return commit >= 0 && commit < commitsMade;
        }

        int commitCount() {
            return commitsMade;
        }

        int atCommit(int commit, int name) {
            return hasCommit(commit) && isName(name) ? committed[commit * NAMES + name] : NONE;
        }

        /** Commits the present branch, with a further parent if that is not NONE. */
        int recordCommit(int parent) {
            if (commitsMade >= MOST_COMMITS) {
                return NONE;
            }
            for (int name = 0; name < NAMES; name++) {
                committed[commitsMade * NAMES + name] = names[present * NAMES + name];
            }
            parents[2 * commitsMade] = lastCommits[present];
            parents[2 * commitsMade + 1] = parent;
            lastCommits[present] = commitsMade;
            commitsMade++;
            return commitsMade - 1;
        }

        /** A bit for each ancestor; parents have lower numbers than what comes of them. */
        private long ancestorsOf(int commit) {
            if (!hasCommit(commit)) {
                return 0;
            }
            long ancestors = 1L << commit;
            for (int i = commit; i >= 0; i--) {
                if ((ancestors >> i & 1) != 0) {
                    ancestors |= parents[2 * i] < 0 ? 0 : 1L << parents[2 * i];
                    ancestors |= parents[2 * i + 1] < 0 ? 0 : 1L << parents[2 * i + 1];
                }
            }
            return ancestors;
        }

        int commonAncestor(int commit, int other) {
            long common = ancestorsOf(commit) & ancestorsOf(other);
            for (int i = commitsMade - 1; i >= 0; i--) {
                if ((common >> i & 1) != 0) {
                    return i;
                }
            }
            return NONE;
        }

        int mergeIn(int branch) {
            if (!hasBranch(branch)) {
                return 0;
            }
            int base = commonAncestor(lastCommits[present], lastCommits[branch]);
            int conflicts = 0;
            for (int name = 0; name < NAMES; name++) {
                int was = atCommit(base, name);
                int here = names[present * NAMES + name];
                int there = names[branch * NAMES + name];
                isConflict[name] = here != was && there != was && here != there;
                conflicts += isConflict[name] ? 1 : 0;
                if (here == was) {
                    names[present * NAMES + name] = there;
                }
            }
            recordCommit(lastCommits[branch]);
            return conflicts;
        }

        int conflictName(int index) {
            int left = index;
            for (int name = 0; name < NAMES && index >= 0; name++) {
                if (isConflict[name]) {
                    if (left == 0) {
                        return name;
                    }
                    left--;
                }
            }
            return NONE;
        }
    }

    /** What is staged: drafts with names, in their order. */
    private static final class Staging {
        private final Nodes nodes;
        private final Groups groups;
        private final Checker checker;
        private final Codebase codebase;
        private final Branches branches;
        private final int[] drafts = new int[MOST_STAGED];
        private final int[] names = new int[MOST_STAGED];
        private int count;
        private int uniques;
        private int faulty;

        Staging(Nodes nodes, Groups groups, Checker checker, Codebase codebase, Branches branches) {
            this.nodes = nodes;
            this.groups = groups;
            this.checker = checker;
            this.codebase = codebase;
            this.branches = branches;
            for (int i = 0; i < MOST_STAGED; i++) {
                drafts[i] = i;
            }
        }

        int stagedCount() {
            return count;
        }

        private int indexOf(int name) {
            for (int i = 0; i < count; i++) {
                if (names[i] == name) {
                    return i;
                }
            }
            return NONE;
        }

        boolean isStaged(int name) {
            return indexOf(name) != NONE;
        }

        boolean hasPlaceFor(int name) {
            return count < MOST_STAGED || isStaged(name);
        }

        /** Stages behind all others, in place of what had this name; answers how many are staged. */
        int put(int name, boolean isData, int typeOrOwn, int term) {
            int earlier = indexOf(name);
            if (earlier != NONE) {
                moveBehind(earlier);
            } else if (count < MOST_STAGED) {
                count++;
            }
            names[count - 1] = name;
            codebase.shape(drafts[count - 1], isData, typeOrOwn, term);
            return count;
        }

        private void moveBehind(int index) {
            int moved = drafts[index];
            for (int i = index; i + 1 < count; i++) {
                drafts[i] = drafts[i + 1];
                names[i] = names[i + 1];
            }
            drafts[count - 1] = moved;
        }

        /** A number of its own for data that is unique. */
        int nextUnique() {
            uniques++;
            return uniques;
        }

        void clear() {
            count = 0;
        }

        boolean areNamesFree() {
            for (int i = 0; i < count; i++) {
                if (branches.at(names[i]) != NONE) {
                    return false;
                }
            }
            return true;
        }

        boolean haveNamesTheirKind() {
            for (int i = 0; i < count; i++) {
                int old = branches.at(names[i]);
                if (old == NONE || codebase.isData(old) != codebase.isData(drafts[i])) {
                    return false;
                }
            }
            return true;
        }

        int nameOfFault() {
            return faulty;
        }

        /** Finds what the names in the drafts mean, and the types; answers the fault. */
        char lookOver() {
            for (int i = 0; i < count; i++) {
                char fault = codebase.isData(drafts[i]) ? lookAtData(i) : NOTHING;
                if (fault != NOTHING) {
                    faulty = names[i];
                    return fault;
                }
            }
            for (int i = 0; i < count; i++) {
                if (!codebase.isData(drafts[i]) && !findMeanings(drafts[i], count)) {
                    faulty = names[i];
                    return 'n';
                }
            }
            for (int i = 0; i < count; i++) {
                if (!codebase.isData(drafts[i]) && !checker.hasItsType(drafts[i])) {
                    faulty = names[i];
                    return 't';
                }
            }
            return NOTHING;
        }

        private char lookAtData(int index) {
            int draft = drafts[index];
            if (!findMeanings(draft, index + 1)) {
                return 'n';
            }
            int constructor = codebase.termNode(draft);
            for (int i = 0; i < MOST_CONSTRUCTORS && constructor >= 0; i++) {
                constructor = nodes.bAt(constructor);
            }
            if (constructor >= 0) {
                return 'k';
            }
            codebase.setHash(draft, groups.dataRow(ROW_START, draft), false);
            return NOTHING;
        }

        /** Finds what the names in a draft mean; answers whether there is something for each. */
        private boolean findMeanings(int draft, int first) {
            int data = codebase.dataNames(draft);
            int terms = codebase.termNames(draft);
            int slot = 0;
            boolean areThere = true;
            for (int i = 0; i < 2 * NAMES; i++) {
                boolean isData = i < NAMES;
                int name = isData ? i : i - NAMES;
                if (((isData ? data : terms) >> name & 1) == 0) {
                    continue;
                }
                int found = meaning(name, isData, first);
                codebase.setMeaning(draft, slot, found);
                areThere = areThere && found != NONE;
                slot++;
            }
            return areThere;
        }

        /** What a name means: one of the first staged ones, or what is in the branch, NONE for none. */
        private int meaning(int name, boolean isData, int first) {
            int index = indexOf(name);
            if (index != NONE && index < first && codebase.isData(drafts[index]) == isData) {
                return drafts[index];
            }
            int there = branches.at(name);
            return there != NONE && codebase.isData(there) == isData ? there : NONE;
        }

        /** Keeps the drafts, in which there is no fault; answers how many are new. */
        int settle() {
            int fresh = 0;
            for (int i = 0; i < count; i++) {
                if (codebase.isData(drafts[i])) {
                    groups.setOnly(drafts[i]);
                    fresh += codebase.settle(groups);
                }
            }
            groups.clear();
            for (int i = 0; i < count; i++) {
                if (!codebase.isData(drafts[i])) {
                    groups.add(drafts[i]);
                }
            }
            groups.connect();
            for (int i = 0; i < MOST_STAGED && groups.nextGroup(); i++) {
                groups.hashMembers();
                fresh += codebase.settle(groups);
            }
            return fresh;
        }

        /** The hashes that the names have become the new ones; of two for one hash the later counts. */
        void noteChanges() {
            for (int i = 0; i < count; i++) {
                codebase.setBecame(branches.at(names[i]), codebase.settledFor(drafts[i]));
            }
            for (int i = 0; i < count; i++) {
                int old = branches.at(names[i]);
                if (codebase.became(old) == old) {
                    codebase.setBecame(old, NONE);
                }
            }
        }

        void giveNames() {
            for (int i = 0; i < count; i++) {
                branches.give(names[i], codebase.settledFor(drafts[i]));
            }
        }
    }

    /** The patches, one behind the other: each hash that is kept, and what it becomes. */
    private static final class Patches {
        private final Codebase codebase;
        /** What becomes another in the high half of each number, and what it becomes in the low one. */
        private final Row entries;
        private final int[] starts = new int[MOST_PATCHES + 1];
        private int count;
        private int end;

        Patches(Codebase codebase) {
            this.codebase = codebase;
            entries = codebase.furtherRow();
        }

        int patchCount() {
            return count;
        }

        boolean isFull() {
            return count >= MOST_PATCHES;
        }

        private int startOf(int patch) {
            return patch >= 0 && patch <= count && patch < starts.length ? starts[patch] : end;
        }

        int sizeOf(int patch) {
            return startOf(patch + 1) - startOf(patch);
        }

        private int from(int index) {
            return (int) (entries.at(index) >> 32);
        }

        private int to(int index) {
            return (int) entries.at(index);
        }

        private void set(int index, int from, int to) {
            entries.put(index, (long) from << 32 | to);
        }

        private void add(int from, int to) {
            if (codebase.hasRoomFor(0, PATCH_RESERVE)) {
                set(end, from, to);
                end++;
            }
        }

        private void close() {
            if (count < MOST_PATCHES) {
                count++;
                starts[count] = end;
            }
        }

        void markAll() {
            for (int i = 0; i < end; i++) {
                codebase.mark(from(i));
                codebase.mark(to(i));
            }
        }

        void addChanges() {
            for (int i = 0; i < codebase.keptCount(); i++) {
                int definition = codebase.at(i);
                if (codebase.became(definition) != NONE) {
                    add(definition, codebase.became(definition));
                }
            }
            close();
        }

        /** Notes at each definition that a patch keeps what is kept with it. */
        private void setFollowing(int patch, boolean isFollowed) {
            int until = startOf(patch + 1);
            for (int i = startOf(patch); i < until; i++) {
                codebase.setFollow(from(i), isFollowed ? to(i) : NONE);
            }
        }

        /** Notes at each definition that a patch keeps what it becomes by it, itself perhaps. */
        private void noteLasts(int patch) {
            setFollowing(patch, true);
            int until = startOf(patch + 1);
            for (int i = startOf(patch); i < until; i++) {
                if (codebase.became(from(i)) == NONE) {
                    follow(from(i));
                }
            }
            setFollowing(patch, false);
        }

        /**
         * Goes on from a definition until nothing follows, one comes again, or it is known what comes
         * of one; then notes at all that were passed what they become.
         */
        private void follow(int start) {
            codebase.beginMarks();
            codebase.mark(start);
            int at = start;
            int next = codebase.follow(at);
            for (int i = 0; i < end && next != NONE && !codebase.isMarked(next)
                && codebase.became(next) == NONE; i++) {
                codebase.mark(next);
                at = next;
                next = codebase.follow(at);
            }
            if (next == NONE) {
                notePassed(start, at, at);
            } else if (codebase.became(next) != NONE) {
                notePassed(start, next, codebase.became(next));
            } else {
                notePassed(start, next, at);
                noteRing(next, at);
            }
        }

        private void notePassed(int start, int behind, int last) {
            int at = start;
            for (int i = 0; i < end && at != behind; i++) {
                codebase.setBecame(at, last);
                at = codebase.follow(at);
            }
        }

        /** In a ring each one becomes the one ahead of it. */
        private void noteRing(int start, int aheadOfStart) {
            int ahead = aheadOfStart;
            int at = start;
            for (int i = 0; i < end && codebase.became(at) == NONE; i++) {
                codebase.setBecame(at, ahead);
                ahead = at;
                at = codebase.follow(at);
            }
        }

        private int lastOf(int definition) {
            int last = codebase.became(definition);
            return last == NONE ? definition : last;
        }

        /** Notes at each definition what it becomes by a patch, if that is another one. */
        void noteChanges(int patch) {
            noteLasts(patch);
            int until = startOf(patch + 1);
            for (int i = startOf(patch); i < until; i++) {
                if (codebase.became(from(i)) == from(i)) {
                    codebase.setBecame(from(i), NONE);
                }
            }
        }

        int addComposed(int patch, int other) {
            int made = end;
            int until = startOf(patch + 1);
            noteLasts(patch);
            for (int i = startOf(patch); i < until; i++) {
                add(from(i), lastOf(from(i)));
            }
            codebase.forgetChanges();
            int madeUntil = end;
            noteLasts(other);
            for (int i = made; i < madeUntil; i++) {
                set(i, from(i), lastOf(to(i)));
            }
            setFollowing(patch, true);
            until = startOf(other + 1);
            for (int i = startOf(other); i < until; i++) {
                if (codebase.follow(from(i)) == NONE) {
                    add(from(i), lastOf(from(i)));
                }
            }
            setFollowing(patch, false);
            codebase.forgetChanges();
            close();
            return count - 1;
        }

        /** Answers the number of conflicts. */
        int addMerged(int patch, int other) {
            int conflicts = 0;
            int until = startOf(patch + 1);
            for (int i = startOf(patch); i < until; i++) {
                add(from(i), to(i));
            }
            setFollowing(patch, true);
            until = startOf(other + 1);
            for (int i = startOf(other); i < until; i++) {
                int there = codebase.follow(from(i));
                if (there == NONE) {
                    add(from(i), to(i));
                } else {
                    conflicts += there == to(i) ? 0 : 1;
                }
            }
            setFollowing(patch, false);
            close();
            return conflicts;
        }
    }

    /** Carries changes along to what needs them, and keeps the names that are to do. */
    private static final class Carrier {
        private final Groups groups;
        private final Checker checker;
        private final Codebase codebase;
        private final Branches branches;
        private final int[] originals = new int[MOST_STAGED];
        private final boolean[] isTodo = new boolean[NAMES];
        private boolean isForPatch;
        private int carried;
        private int old;
        private int next;

        Carrier(Groups groups, Checker checker, Codebase codebase, Branches branches) {
            this.groups = groups;
            this.checker = checker;
            this.codebase = codebase;
            this.branches = branches;
        }

        int todoCount() {
            int count = 0;
            for (int name = 0; name < NAMES; name++) {
                count += isTodo[name] ? 1 : 0;
            }
            return count;
        }

        int todoName(int index) {
            int left = index;
            for (int name = 0; name < NAMES && index >= 0; name++) {
                if (isTodo[name]) {
                    if (left == 0) {
                        return name;
                    }
                    left--;
                }
            }
            return NONE;
        }

        /** How many definitions were replaced. */
        int carriedCount() {
            return carried;
        }

        /** Begins to go through all that can be reached from the names of the branch, for a patch or not. */
        void begin(boolean isForPatch) {
            this.isForPatch = isForPatch;
            for (int name = 0; name < NAMES; name++) {
                isTodo[name] = false;
            }
            carried = 0;
            next = 0;
            old = codebase.keptCount();
            codebase.beginMarks();
            for (int name = 0; name < NAMES; name++) {
                codebase.mark(branches.at(name));
            }
            codebase.sweep();
            groups.clear();
        }

        /** Finds the next group among what has not become another one already. */
        boolean findGroup() {
            boolean isFound = groups.nextGroup();
            for (int i = next; i < old && !isFound; i++) {
                if (codebase.isStart(i)) {
                    next = codebase.endFrom(i);
                    addUnchanged(i, next);
                    isFound = groups.nextGroup();
                }
            }
            return isFound;
        }

        private void addUnchanged(int start, int end) {
            groups.clear();
            for (int i = start; i < end; i++) {
                int definition = codebase.at(i);
                if (codebase.isMarked(definition) && codebase.became(definition) == NONE) {
                    groups.add(definition);
                }
            }
            groups.connect();
        }

        /** Replaces the group that was found, if it is to be; it stays, too, if there is no room. */
        void carryGroup() {
            int size = Math.min(groups.size(), originals.length);
            boolean isReplaced = false;
            for (int i = 0; i < size; i++) {
                originals[i] = groups.member(i);
                isReplaced = isReplaced || codebase.usesChanged(originals[i]);
            }
            if (!isReplaced) {
                return;
            }
            for (int i = 0; i < size; i++) {
                codebase.copyReplaced(originals[i], FIRST_COPY + i, originals, size);
            }
            boolean haveTypes = codebase.hasRoomFor(isForPatch ? carried : 0, CARRY_RESERVE);
            for (int i = 0; i < size && haveTypes; i++) {
                int copy = FIRST_COPY + i;
                haveTypes = codebase.isData(copy) || checker.hasItsType(copy);
                groups.setMember(i, copy);
            }
            if (!haveTypes) {
                leaveToDo(size);
                return;
            }
            groups.hashMembers();
            codebase.settle(groups);
            for (int i = 0; i < size; i++) {
                takeCopy(originals[i], codebase.settledFor(FIRST_COPY + i));
            }
        }

        private void leaveToDo(int size) {
            for (int i = 0; i < size; i++) {
                for (int name = 0; name < NAMES; name++) {
                    isTodo[name] = isTodo[name] || branches.at(name) == originals[i];
                }
            }
        }

        private void takeCopy(int original, int made) {
            if (made != NONE && made != original) {
                codebase.setCarried(original, made);
                carried++;
            }
        }
    }

    /** Works terms out, with frames of its own in place of a recursion. */
    private static final class Worker {
        private final Nodes nodes;
        private final Codebase codebase;
        private final int[] frameNodes = new int[MOST_FRAMES];
        private final int[] frameSteps = new int[MOST_FRAMES];
        private final int[] frameDefinitions = new int[MOST_FRAMES];
        private final Cell[] frameScopes = new Cell[MOST_FRAMES];
        private final Cell[] frameHeld = new Cell[MOST_FRAMES];
        private final Cell first = new Cell();
        private Cell last;
        private Cell answer;
        private int frames;
        private int begun;
        private int underWay;
        private boolean isStopped;

        Worker(Nodes nodes, Codebase codebase) {
            this.nodes = nodes;
            this.codebase = codebase;
            last = first;
        }

        /** Answers the value, which holds until the next call, or null if it was stopped. */
        Cell workOut(int term) {
            last = first;
            answer = null;
            frames = 0;
            begun = 0;
            underWay = 0;
            isStopped = false;
            if (isBegun()) {
                push(codebase.termNode(term), term, null);
            }
            for (int i = 0; i < MOST_STEPS && frames > 0 && !isStopped; i++) {
                advance(frames - 1);
            }
            return isStopped || frames > 0 ? null : answer;
        }

        private boolean isBegun() {
            if (begun >= MOST_BEGUN || underWay >= MOST_UNDER_WAY) {
                isStopped = true;
                return false;
            }
            begun++;
            underWay++;
            return true;
        }

        private void push(int node, int in, Cell scope) {
            if (frames >= MOST_FRAMES) {
                isStopped = true;
                return;
            }
            frameNodes[frames] = node;
            frameSteps[frames] = 0;
            frameDefinitions[frames] = in;
            frameScopes[frames] = scope;
            frameHeld[frames] = null;
            frames++;
        }

        /** Works a part of the term out, in the scope of the whole. */
        private void pushPart(int top, int node) {
            frameSteps[top]++;
            push(node, frameDefinitions[top], frameScopes[top]);
        }

        /** What is worked out last in a frame takes its place. */
        private void turnInto(int top, int node, Cell scope) {
            frameNodes[top] = node;
            frameSteps[top] = 0;
            frameScopes[top] = scope;
        }

        private void finish(Cell value) {
            answer = value;
            isStopped = isStopped || value == null;
            frames--;
        }

        private Cell cell(char kind, int number, Cell inner) {
            last = last.following(kind);
            last.number = number;
            last.inner = inner;
            return last;
        }

        private Cell bind(Cell value, Cell outer) {
            Cell scope = cell('s', 0, value);
            scope.outer = outer;
            return scope;
        }

        private void advance(int top) {
            if (top < 0 || top >= MOST_FRAMES) {
                isStopped = true;
                return;
            }
            int node = frameNodes[top];
            switch (nodes.kindAt(node)) {
                case 'i':
                    finish(cell('i', nodes.aAt(node), null));
                    break;
                case 'v':
                    finish(lookUp(frameScopes[top], nodes.aAt(node)));
                    break;
                case 'f':
                    Cell function = cell('f', 0, frameScopes[top]);
                    function.node = node;
                    function.definition = frameDefinitions[top];
                    finish(function);
                    break;
                case 'a':
                    advanceApplication(top, node);
                    break;
                case 'o':
                    advanceOperator(top, node);
                    break;
                case '?':
                    advanceChoice(top, node);
                    break;
                case 'l':
                    advanceBinding(top, node);
                    break;
                case 'r':
                    advanceName(top, node);
                    break;
                case 'm':
                    advanceConstructor(top, node);
                    break;
                case 'c':
                    advanceBranches(top, node);
                    break;
                default:
                    isStopped = true;
            }
        }

        private static Cell lookUp(Cell scope, int variable) {
            Cell at = scope;
            for (int i = 0; i < variable && at != null; i++) {
                at = at.outer;
            }
            return at == null ? null : at.inner;
        }

        private void advanceApplication(int top, int node) {
            switch (frameSteps[top]) {
                case 0:
                    pushPart(top, nodes.aAt(node));
                    break;
                case 1:
                    frameHeld[top] = answer;
                    pushPart(top, nodes.bAt(node));
                    break;
                case 2:
                    Cell function = frameHeld[top];
                    if (function == null || function.kind != 'f') {
                        isStopped = true;
                    } else if (isBegun()) {
                        frameSteps[top]++;
                        push(nodes.bAt(function.node), function.definition, bind(answer, function.inner));
                    }
                    break;
                default:
                    underWay--;
                    finish(answer);
            }
        }

        private void advanceOperator(int top, int node) {
            switch (frameSteps[top]) {
                case 0:
                    pushPart(top, nodes.aAt(node));
                    break;
                case 1:
                    frameHeld[top] = answer;
                    pushPart(top, nodes.bAt(node));
                    break;
                default:
                    Cell left = frameHeld[top];
                    if (left == null || answer == null) {
                        isStopped = true;
                    } else {
                        finish(cell('i', operate(nodes.cAt(node), left.number, answer.number), null));
                    }
            }
        }

        private static int operate(int operator, int left, int right) {
            switch (operator) {
                case 0:
                    return left + right;
                case 1:
                    return left - right;
                case 2:
                    return left * right;
                case 3:
                    return left < right ? 1 : 0;
                default:
                    return left == right ? 1 : 0;
            }
        }

        private void advanceChoice(int top, int node) {
            if (frameSteps[top] == 0) {
                pushPart(top, nodes.aAt(node));
            } else {
                boolean isTrue = answer != null && answer.number != 0;
                turnInto(top, isTrue ? nodes.bAt(node) : nodes.cAt(node), frameScopes[top]);
            }
        }

        private void advanceBinding(int top, int node) {
            if (frameSteps[top] == 0) {
                pushPart(top, nodes.aAt(node));
            } else {
                turnInto(top, nodes.bAt(node), bind(answer, frameScopes[top]));
            }
        }

        private void advanceName(int top, int node) {
            if (frameSteps[top] != 0) {
                underWay--;
                finish(answer);
                return;
            }
            int named = codebase.termAt(frameDefinitions[top], nodes.aAt(node));
            if (named == NONE) {
                isStopped = true;
            } else if (isBegun()) {
                frameSteps[top]++;
                push(codebase.termNode(named), named, null);
            }
        }

        private void advanceConstructor(int top, int node) {
            int argument = nodes.cAt(node);
            if (argument < 0) {
                finish(cell('c', nodes.bAt(node), null));
            } else if (frameSteps[top] == 0) {
                pushPart(top, argument);
            } else {
                finish(cell('c', nodes.bAt(node), answer));
            }
        }

        private void advanceBranches(int top, int node) {
            if (frameSteps[top] == 0) {
                pushPart(top, nodes.bAt(node));
                return;
            }
            if (answer == null) {
                isStopped = true;
                return;
            }
            int branch = nodes.cAt(node);
            for (int i = 0; i < answer.number && i < MOST_CONSTRUCTORS; i++) {
                branch = nodes.bAt(branch);
            }
            Cell scope = answer.inner == null ? frameScopes[top] : bind(answer.inner, frameScopes[top]);
            turnInto(top, nodes.aAt(branch), scope);
        }
    }

    /** Writes the line. */
    private static final class Writer {
        private final Nodes nodes;
        private final Codebase codebase;
        private final Branches branches;
        private final char[] line = new char[LINE];
        private int length;

        Writer(Nodes nodes, Codebase codebase, Branches branches) {
            this.nodes = nodes;
            this.codebase = codebase;
            this.branches = branches;
        }

        void clear() {
            length = 0;
        }

        int lineLength() {
            return length;
        }

        char signAt(int index) {
            return index >= 0 && index < length ? line[index] : NOTHING;
        }

        private void put(char sign) {
            if (length < LINE) {
                line[length] = sign;
                length++;
            }
        }

        private void put(String text) {
            for (int i = 0; i < text.length(); i++) {
                put(text.charAt(i));
            }
        }

        private void number(int number) {
            long left = Math.abs((long) number);
            if (number < 0) {
                put('-');
            }
            boolean isBegun = false;
            for (long unit = 1_000_000_000L; unit > 0; unit /= 10) {
                int digit = (int) (left / unit);
                left -= digit * unit;
                isBegun = isBegun || digit != 0 || unit == 1;
                if (isBegun) {
                    put((char) ('0' + digit));
                }
            }
        }

        private void variable(int binders) {
            put('x');
            number(binders);
        }

        private void constructor(int number) {
            put('c');
            number(number);
        }

        /** Writes a value, whose constructors are a chain; nothing is written for null. */
        void value(Cell value) {
            int open = 0;
            Cell at = value;
            for (int i = 0; i < LINE && at != null && at.kind == 'c'; i++) {
                constructor(at.number);
                at = at.inner;
                if (at != null) {
                    put('(');
                    open++;
                }
            }
            if (at != null && at.kind == 'i') {
                number(at.number);
            }
            if (at != null && at.kind == 'f') {
                put("fn");
            }
            for (int i = 0; i < open; i++) {
                put(')');
            }
        }

        void toldType(int term) {
            type(codebase.typeNode(term), term, 0);
        }

        void body(int definition) {
            int at = codebase.termNode(definition);
            if (!codebase.isData(definition)) {
                term(at, definition, 0, 0);
                return;
            }
            for (int i = 0; i < MOST_CONSTRUCTORS && at >= 0; i++) {
                put(i == 0 ? "" : " | ");
                constructor(i);
                if (nodes.aAt(at) >= 0) {
                    put(' ');
                    type(nodes.aAt(at), definition, 0);
                }
                at = nodes.bAt(at);
            }
        }

        private void named(int definition) {
            if (definition == NONE) {
                return;
            }
            int name = branches.lowestNameOf(definition);
            if (name != NONE) {
                put((char) ('a' + name));
                return;
            }
            put('#');
            int digits = digitsNeeded(definition);
            for (int i = 0; i < digits; i++) {
                int digit = digitOf(codebase.hashAt(definition), i);
                put((char) (digit < 10 ? '0' + digit : 'a' + digit - 10));
            }
        }

        private int digitsNeeded(int definition) {
            long hash = codebase.hashAt(definition);
            int digits = 1;
            for (int i = 0; i < codebase.keptCount(); i++) {
                int other = codebase.at(i);
                if (other != definition) {
                    digits = Math.max(digits, digitsApart(codebase.hashAt(other), hash));
                }
            }
            return digits;
        }

        private static int digitsApart(long hash, long other) {
            int digits = 1;
            while (digits < HASH_DIGITS && digitOf(hash, digits - 1) == digitOf(other, digits - 1)) {
                digits++;
            }
            return digits;
        }

        private static int digitOf(long hash, int index) {
            return (int) (hash >>> 60 - 4 * index & 15);
        }

        private void type(int node, int in, int depth) {
            if (depth > DEEPEST) {
                return;
            }
            switch (nodes.kindAt(node)) {
                case '>':
                    put('(');
                    type(nodes.aAt(node), in, depth + 1);
                    put(" -> ");
                    type(nodes.bAt(node), in, depth + 1);
                    put(')');
                    break;
                case 'd':
                    int data = codebase.dataAt(in, nodes.aAt(node));
                    if (data == in) {
                        put('.');
                    } else {
                        named(data);
                    }
                    break;
                default:
                    put("int");
            }
        }

        private void term(int node, int in, int binders, int depth) {
            if (depth > DEEPEST) {
                return;
            }
            int a = nodes.aAt(node);
            switch (nodes.kindAt(node)) {
                case 'i':
                    number(a);
                    break;
                case 'v':
                    variable(binders - 1 - a);
                    break;
                case 'f':
                    put('(');
                    variable(binders);
                    put(": ");
                    type(a, in, 0);
                    put(" => ");
                    term(nodes.bAt(node), in, binders + 1, depth + 1);
                    put(')');
                    break;
                case 'a':
                    term(a, in, binders, depth + 1);
                    put('(');
                    term(nodes.bAt(node), in, binders, depth + 1);
                    put(')');
                    break;
                case 'r':
                    named(codebase.termAt(in, a));
                    break;
                case 'm':
                    construction(node, in, binders, depth + 1);
                    break;
                case 'c':
                    selection(node, in, binders, depth + 1);
                    break;
                default:
                    inBrackets(node, in, binders, depth + 1);
            }
        }

        private void inBrackets(int node, int in, int binders, int depth) {
            boolean isBinding = nodes.kindAt(node) == 'l';
            put('(');
            if (isBinding) {
                variable(binders);
                put(" = ");
            }
            term(nodes.aAt(node), in, binders, depth);
            if (isBinding) {
                put("; ");
            } else {
                put(' ');
                put(signOf(node));
                put(' ');
            }
            term(nodes.bAt(node), in, isBinding ? binders + 1 : binders, depth);
            if (nodes.kindAt(node) == '?') {
                put(" : ");
                term(nodes.cAt(node), in, binders, depth);
            }
            put(')');
        }

        private char signOf(int node) {
            if (nodes.kindAt(node) == '?') {
                return '?';
            }
            switch (nodes.cAt(node)) {
                case 0:
                    return '+';
                case 1:
                    return '-';
                case 2:
                    return '*';
                case 3:
                    return '<';
                default:
                    return '=';
            }
        }

        private void construction(int node, int in, int binders, int depth) {
            named(codebase.dataAt(in, nodes.aAt(node)));
            put('.');
            constructor(nodes.bAt(node));
            if (nodes.cAt(node) >= 0) {
                put('(');
                term(nodes.cAt(node), in, binders, depth);
                put(')');
            }
        }

        private void selection(int node, int in, int binders, int depth) {
            put('(');
            term(nodes.bAt(node), in, binders, depth);
            int data = codebase.dataAt(in, nodes.aAt(node));
            int constructor = codebase.isData(data) ? codebase.termNode(data) : NONE;
            int branch = nodes.cAt(node);
            for (int i = 0; i < MOST_CONSTRUCTORS && branch >= 0; i++) {
                put(" | ");
                constructor(i);
                int inside = binders;
                if (nodes.aAt(constructor) >= 0) {
                    put(' ');
                    variable(binders);
                    inside++;
                }
                put(" => ");
                term(nodes.aAt(branch), in, inside, depth);
                constructor = nodes.bAt(constructor);
                branch = nodes.bAt(branch);
            }
            put(')');
        }
    }
}
