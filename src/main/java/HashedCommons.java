import java.util.Arrays;
import java.util.NoSuchElementException;

/**
 * A commons of code that is kept by what it says: definitions have hashes of their structure, names
 * stand apart from them. README.md tells how the parts work together.
 */
public final class HashedCommons {
    private static final int NAMES = 26;
    private static final int MOST_NODES = 300;
    private static final int MOST_DEPTH = 20;
    private static final int MOST_WEIGHT = 200;
    private static final int MOST_VARIABLE = 30;
    private static final int MOST_CONSTRUCTORS = 4;
    private static final int OPERATORS = 5;
    private static final int MOST_STAGED = 8;
    private static final int MOST_PATCHES = 20;
    private static final int MOST_BRANCHES = 5;
    private static final int MOST_COMMITS = 40;
    private static final int MOST_BEGUN = 300;
    private static final int MOST_UNDER_WAY = 25;
    private static final int MACHINES = 3;
    private static final int ALL_MACHINES = (1 << MACHINES) - 1;
    private static final int MOST_JOBS = 30;
    private static final int LINE = 200;
    private static final int HASH_DIGITS = 16;

    /** No document limit: guards the recursions over nodes, which are at most MOST_DEPTH deep. */
    private static final int DEEPEST = 40;
    /** No document limit: stands far above the steps that 300 beginnings of 200 nodes can take. */
    private static final int MOST_STEPS = 1_000_000;
    private static final int MOST_FRAMES = 600;
    /** No document limit: stands above the definitions for which there is room. */
    private static final int MOST_GROUPS = 4_000_000;
    private static final int NODE_BITS = 9;
    /** No document limit: terms are tested in at most 512 calls. */
    private static final int MOST_TESTED = 512;

    /**
     * No document limit: definitions and patches grow as long as a run has room for them, which is some
     * 7.3 million numbers in all. What the parts leave of it is for the constructors.
     */
    private static final int MOST_PARTS = 3300;
    private static final int PART_BITS = 11;
    private static final int PART = 1 << PART_BITS;
    /** No document limit: what is worked out or told by types takes at most 300 times 200 cells. */
    private static final int CELL_PARTS = 1 << 16 - PART_BITS;
    private static final int FIRST_CELL = 1;
    /** No document limit: the number of a definition has so many bits, that three stand in one long. */
    private static final int INDEX_BITS = 21;
    private static final int MOST_DEFINITIONS = (1 << INDEX_BITS) - 1;
    private static final int INDEX_PARTS = 1 << INDEX_BITS - PART_BITS;
    /** Parts that are left to all others when changes are carried along, and when patches are kept. */
    private static final int CARRY_RESERVE = 128;
    private static final int PATCH_RESERVE = 96;
    /** Definitions that are left to what is staged, which are at most 8 in each of 512 calls. */
    private static final int CARRY_DEFINITIONS = 8192;
    /** Parts that one definition can need, one in each row and a further one for its names. */
    private static final int LEAST_PARTS = 6;
    private static final int HEAD_LOAD = 4;
    /** Drafts of what is staged, and then of what is carried along, are the first definitions. */
    private static final int FIRST_COPY = MOST_STAGED;
    private static final int DRAFTS = 2 * MOST_STAGED;

    private static final int NONE = -1;
    private static final char NOTHING = '-';
    private static final char TYPE_SORT = 'T';
    private static final char TERM_SORT = 't';
    private static final char BRANCH_SORT = 'B';
    private static final char CONSTRUCTOR_SORT = 'C';
    private static final long ROW_START = -3750763034362895579L;
    private static final long ROW_FACTOR = 1099511628211L;

    private final Nodes nodes;
    private final Groups groups;
    private final Checker checker;
    private final Machines machines;
    private final Codebase codebase;
    private final Branches branches;
    private final Staging staging;
    private final Patches patches;
    private final Carrier carrier;
    private final Worker worker;
    private final Writer writer;
    private final long[] testedHashes;
    private final char[] testOutcomes;
    private int testCount;
    private final long[] jobHashes;
    private final int[] jobMachines;
    private final char[] jobStates;
    private final char[] jobOutcomes;
    private final int[] jobNumbers;
    private int jobCount;

    public HashedCommons() {
        Row room = new Row(0, new Row[MOST_PARTS], new int[] {MOST_PARTS, 0});
        Row cells = new Row(CELL_PARTS, new Row[CELL_PARTS], new int[] {CELL_PARTS, 0});
        nodes = new Nodes();
        machines = new Machines(room);
        codebase = new Codebase(nodes, machines, room);
        groups = new Groups(nodes, codebase);
        checker = new Checker(nodes, codebase, cells);
        branches = new Branches();
        staging = new Staging(nodes, groups, checker, codebase, branches);
        patches = new Patches(codebase, room);
        carrier = new Carrier(groups, checker, codebase, branches);
        worker = new Worker(nodes, codebase, cells);
        writer = new Writer(nodes, codebase, branches, cells);
        testedHashes = new long[MOST_TESTED];
        testOutcomes = new char[MOST_TESTED];
        jobHashes = new long[MOST_JOBS];
        jobMachines = new int[MOST_JOBS];
        jobStates = new char[MOST_JOBS];
        jobOutcomes = new char[MOST_JOBS];
        jobNumbers = new int[MOST_JOBS];
    }

    // Nodes and staging

    public int node(char kind, int a, int b, int c) throws IllegalArgumentException, IllegalStateException {
        if (!nodes.fits(kind, a, b, c)) {
            throw new IllegalArgumentException("no such kind, or an operand is not as told for it");
        }
        int node = nodes.tell(kind, a, b, c);
        if (node == NONE) {
            throw new IllegalStateException("too many nodes, too deep or too heavy");
        }
        return node;
    }

    public int stage(int name, int type, int term)
        throws IllegalArgumentException, NoSuchElementException, UnsupportedOperationException, IllegalStateException {
        requireName(name);
        requireNode(type);
        requireNode(term);
        if (nodes.sortAt(type) != TYPE_SORT || nodes.sortAt(term) != TERM_SORT) {
            throw new UnsupportedOperationException("a type and a term are needed");
        }
        requirePlaceToStage(name);
        return staging.put(name, false, type, term);
    }

    public int stageData(int name, boolean isUnique, int constructor)
        throws IllegalArgumentException, NoSuchElementException, UnsupportedOperationException, IllegalStateException {
        requireName(name);
        requireNode(constructor);
        if (nodes.sortAt(constructor) != CONSTRUCTOR_SORT) {
            throw new UnsupportedOperationException("a constructor is needed");
        }
        requirePlaceToStage(name);
        return staging.put(name, true, isUnique ? staging.nextUnique() : 0, constructor);
    }

    public int unstage() {
        int staged = staging.stagedCount();
        staging.clear();
        return staged;
    }

    public int define() throws IllegalStateException, UnsupportedOperationException {
        if (staging.stagedCount() == 0 || !staging.areNamesFree()) {
            throw new IllegalStateException("nothing is staged, or a name is not free");
        }
        if (staging.lookOver() != NOTHING) {
            throw new UnsupportedOperationException("what is staged has a fault");
        }
        int fresh = staging.settle();
        staging.giveNames();
        staging.clear();
        return fresh;
    }

    public int update() throws IllegalStateException, UnsupportedOperationException {
        if (staging.stagedCount() == 0 || !staging.haveNamesTheirKind() || patches.isFull()) {
            throw new IllegalStateException("nothing is staged, a name does not suit, or there are too many patches");
        }
        if (staging.lookOver() != NOTHING) {
            throw new UnsupportedOperationException("what is staged has a fault");
        }
        staging.settle();
        staging.noteChanges();
        staging.giveNames();
        carrier.begin(true);
        for (int i = 0; i < MOST_GROUPS && carrier.findGroup(); i++) {
            carrier.carryGroup();
        }
        patches.addNoted();
        for (int name = 0; name < NAMES; name++) {
            if (!staging.isStaged(name) || codebase.isCarried(branches.at(name))) {
                takeWhatItBecame(name);
            }
        }
        codebase.forgetChanges();
        staging.clear();
        return carrier.carriedCount();
    }

    public char fault() {
        return staging.lookOver();
    }

    public int faultName() throws NoSuchElementException {
        if (staging.lookOver() == NOTHING) {
            throw new NoSuchElementException("there is no fault");
        }
        return staging.nameOfFault();
    }

    public int todo() {
        return carrier.todoCount();
    }

    public int todoAt(int index) throws IndexOutOfBoundsException {
        int name = carrier.todoName(index);
        if (name == NONE) {
            throw new IndexOutOfBoundsException("no such name to do");
        }
        return name;
    }

    // Names and definitions

    public char kindOf(int name) throws IllegalArgumentException {
        requireName(name);
        int definition = branches.at(name);
        if (definition == NONE) {
            return NOTHING;
        }
        return codebase.isData(definition) ? 'd' : 't';
    }

    public long hash(int name) throws IllegalArgumentException, NoSuchElementException {
        return codebase.hashAt(definitionOf(name));
    }

    public long hashAnew(int name) throws IllegalArgumentException, NoSuchElementException {
        int definition = definitionOf(name);
        markReachable(definition);
        codebase.hashMarkedAnew(groups);
        long hash = codebase.hashOf(definition, true);
        codebase.forgetAnew();
        return hash;
    }

    public boolean needs(int name, int other) throws IllegalArgumentException, NoSuchElementException {
        requireName(name);
        requireName(other);
        int definition = definitionOf(name);
        int wanted = definitionOf(other);
        codebase.markAllNeededBy(definition);
        return codebase.isMarked(wanted);
    }

    public int needed(int name) throws IllegalArgumentException, NoSuchElementException {
        codebase.markAllNeededBy(definitionOf(name));
        return codebase.markedCount();
    }

    public int alias(int name, int other) throws IllegalArgumentException, NoSuchElementException {
        requireName(name);
        requireName(other);
        int definition = definitionOf(name);
        branches.give(other, definition);
        return branches.namesOf(definition);
    }

    public int unname(int name) throws IllegalArgumentException, NoSuchElementException {
        int definition = definitionOf(name);
        branches.give(name, NONE);
        return branches.namesOf(definition);
    }

    public int definitions() {
        return codebase.keptCount();
    }

    public int collect() {
        codebase.beginMarks();
        branches.markAll(codebase);
        patches.markAll();
        for (int job = 0; job < jobCount; job++) {
            if (jobStates[job] != 'd') {
                codebase.mark(codebase.find(jobHashes[job]));
            }
        }
        codebase.sweep();
        int dropped = codebase.keptCount() - codebase.markedCount();
        if (dropped > 0) {
            codebase.numberMarked();
            branches.move(codebase);
            patches.move();
            codebase.dropUnmarked();
            machines.arrange(codebase);
        }
        return dropped;
    }

    // Patches

    public int patches() {
        return patches.patchCount();
    }

    public int patchSize(int patch) throws NoSuchElementException {
        requirePatch(patch);
        return patches.sizeOf(patch);
    }

    public int apply(int patch) throws NoSuchElementException {
        requirePatch(patch);
        patches.noteChanges(patch);
        branches.lookAtNames();
        for (int name = 0; name < NAMES; name++) {
            takeWhatItBecame(name);
        }
        carrier.begin(false);
        for (int i = 0; i < MOST_GROUPS && carrier.findGroup(); i++) {
            carrier.carryGroup();
        }
        for (int name = 0; name < NAMES; name++) {
            if (codebase.isCarried(branches.at(name))) {
                takeWhatItBecame(name);
            }
        }
        codebase.forgetChanges();
        return branches.changedNames();
    }

    public int compose(int patch, int other) throws NoSuchElementException, IllegalStateException {
        requirePatch(patch);
        requirePatch(other);
        requirePlaceForPatch();
        return patches.addComposed(patch, other);
    }

    public int mergePatches(int patch, int other) throws NoSuchElementException, IllegalStateException {
        requirePatch(patch);
        requirePatch(other);
        requirePlaceForPatch();
        return patches.addMerged(patch, other);
    }

    // Branches and commits

    public int commit() throws IllegalStateException {
        requirePlaceForCommit();
        return branches.recordCommit(NONE);
    }

    public int branch() throws IllegalStateException {
        int made = branches.addBranch();
        if (made == NONE) {
            throw new IllegalStateException("there are too many branches");
        }
        return made;
    }

    public int goTo(int branch) throws NoSuchElementException {
        requireBranch(branch);
        return branches.enter(branch);
    }

    public int merge(int branch) throws NoSuchElementException, IllegalArgumentException, IllegalStateException {
        requireBranch(branch);
        if (branches.isPresent(branch)) {
            throw new IllegalArgumentException("it is the present branch");
        }
        requirePlaceForCommit();
        return branches.mergeIn(branch);
    }

    public int conflictAt(int index) throws IndexOutOfBoundsException {
        int name = branches.conflictName(index);
        if (name == NONE) {
            throw new IndexOutOfBoundsException("no such conflict");
        }
        return name;
    }

    public int ancestor(int commit, int other) throws NoSuchElementException, UnsupportedOperationException {
        if (!branches.hasCommit(commit) || !branches.hasCommit(other)) {
            throw new NoSuchElementException("no such commit");
        }
        int common = branches.commonAncestor(commit, other);
        if (common == NONE) {
            throw new UnsupportedOperationException("there is no common ancestor");
        }
        return common;
    }

    public int commits() {
        return branches.commitCount();
    }

    public int hashIn(int commit, int name) throws NoSuchElementException, IllegalArgumentException {
        if (!branches.hasCommit(commit)) {
            throw new NoSuchElementException("no such commit");
        }
        requireName(name);
        int definition = branches.atCommit(commit, name);
        if (definition == NONE) {
            throw new NoSuchElementException("the name has no definition in the commit");
        }
        return (int) (codebase.hashAt(definition) >>> 32);
    }

    // Working out, tests and jobs

    public char work(int name) throws IllegalArgumentException, NoSuchElementException, UnsupportedOperationException {
        return kindOfValue(worker.workOut(termOf(name)));
    }

    public int writeValue(int name)
        throws IllegalArgumentException, NoSuchElementException, UnsupportedOperationException {
        long value = worker.workOut(termOf(name));
        writer.clear();
        writer.value(value);
        return writer.lineLength();
    }

    public char test(int name) throws IllegalArgumentException, NoSuchElementException, UnsupportedOperationException {
        int definition = definitionOf(name);
        if (nodes.kindAt(codebase.typeNode(definition)) != 'j') {
            throw new UnsupportedOperationException("it is no int");
        }
        long hash = codebase.hashAt(definition);
        for (int i = 0; i < testCount && i < MOST_TESTED; i++) {
            if (testedHashes[i] == hash) {
                return testOutcomes[i];
            }
        }
        long value = worker.workOut(definition);
        char outcome = value == 0 ? 'l' : numberOf(value) != 0 ? 'p' : 'n';
        if (testCount < MOST_TESTED) {
            testedHashes[testCount] = hash;
            testOutcomes[testCount] = outcome;
        }
        testCount++;
        return outcome;
    }

    public int tests() {
        return testCount;
    }

    public int job(int machine, int name)
        throws IllegalArgumentException, NoSuchElementException, UnsupportedOperationException, IllegalStateException {
        requireMachine(machine);
        int definition = termOf(name);
        if (machines.isDown(machine) || jobCount >= MOST_JOBS) {
            throw new IllegalStateException("the machine is down, or there are too many jobs");
        }
        jobHashes[jobCount] = codebase.hashAt(definition);
        jobMachines[jobCount] = machine;
        jobStates[jobCount] = 'w';
        jobCount++;
        return jobCount - 1;
    }

    public int goOn(int machine) throws IllegalArgumentException, IllegalStateException, NoSuchElementException {
        requireMachine(machine);
        if (machines.isDown(machine)) {
            throw new IllegalStateException("the machine is down");
        }
        int job = firstWaiting(machine);
        if (job == NONE) {
            throw new NoSuchElementException("no job waits on the machine");
        }
        int done = firstDone(jobHashes[job]);
        if (done == NONE) {
            int definition = codebase.find(jobHashes[job]);
            markReachable(definition);
            machines.noteSent(codebase.sendMarked(machine));
            long value = worker.workOut(definition);
            jobOutcomes[job] = kindOfValue(value);
            jobNumbers[job] = numberOf(value);
        } else {
            jobOutcomes[job] = jobOutcomes[done];
            jobNumbers[job] = jobNumbers[done];
        }
        jobStates[job] = 'd';
        return job;
    }

    public char jobState(int job) throws NoSuchElementException {
        requireJob(job);
        return jobStates[job];
    }

    public char outcome(int job) throws NoSuchElementException, IllegalStateException {
        requireJob(job);
        requireDone(job);
        return jobOutcomes[job];
    }

    public int result(int job) throws NoSuchElementException, IllegalStateException, UnsupportedOperationException {
        requireJob(job);
        requireDone(job);
        if (jobOutcomes[job] != 'i') {
            throw new UnsupportedOperationException("no int came of the job");
        }
        return jobNumbers[job];
    }

    public int retry(int job, int machine)
        throws NoSuchElementException, IllegalArgumentException, IllegalStateException {
        requireJob(job);
        requireMachine(machine);
        if (jobStates[job] != 'f' || machines.isDown(machine)) {
            throw new IllegalStateException("the job has not failed, or the machine is down");
        }
        jobStates[job] = 'w';
        jobMachines[job] = machine;
        return waitingOn(machine);
    }

    public int down(int machine) throws IllegalArgumentException, IllegalStateException {
        requireMachine(machine);
        if (machines.isDown(machine)) {
            throw new IllegalStateException("the machine is down");
        }
        int failing = waitingOn(machine);
        for (int job = 0; job < jobCount; job++) {
            if (jobStates[job] == 'w' && jobMachines[job] == machine) {
                jobStates[job] = 'f';
            }
        }
        machines.stop(machine);
        machines.empty(machine);
        codebase.emptyMachine(machine);
        return failing;
    }

    public boolean up(int machine) throws IllegalArgumentException {
        requireMachine(machine);
        boolean wasDown = machines.isDown(machine);
        machines.start(machine);
        return wasDown;
    }

    public int lacking(int machine, int name) throws IllegalArgumentException, NoSuchElementException {
        requireMachine(machine);
        markReachable(definitionOf(name));
        return codebase.markedWithout(machine);
    }

    public long traffic() {
        return machines.sentCount();
    }

    // Writing and counting

    public int writeTerm(int name) throws IllegalArgumentException, NoSuchElementException {
        int definition = definitionOf(name);
        writer.clear();
        writer.body(definition);
        return writer.lineLength();
    }

    public int writeType(int name)
        throws IllegalArgumentException, NoSuchElementException, UnsupportedOperationException {
        int definition = termOf(name);
        writer.clear();
        writer.toldType(definition);
        return writer.lineLength();
    }

    public char lineAt(int index) throws IndexOutOfBoundsException {
        if (index < 0 || index >= writer.lineLength()) {
            throw new IndexOutOfBoundsException("no such character");
        }
        return writer.signAt(index);
    }

    public boolean isSound() {
        codebase.beginMarks();
        codebase.markAllKept();
        codebase.hashMarkedAnew(groups);
        codebase.forgetAnew();
        return codebase.areMarkedSound(checker);
    }

    public float namedShare() throws ArithmeticException {
        int all = codebase.keptCount();
        if (all == 0) {
            throw new ArithmeticException("there are no definitions");
        }
        return (float) branches.namedCount() / (float) all;
    }

    public double meanNeeded() throws ArithmeticException {
        int named = branches.namedCount();
        if (named == 0) {
            throw new ArithmeticException("no definition has a name");
        }
        int sum = 0;
        for (int name = 0; name < NAMES; name++) {
            int definition = branches.at(name);
            if (definition != NONE && branches.lowestNameOf(definition) == name) {
                codebase.markAllNeededBy(definition);
                sum += codebase.markedCount();
            }
        }
        return (double) sum / (double) named;
    }

    // What the methods above ask for

    private static boolean isName(int name) {
        return name >= 0 && name < NAMES;
    }

    private static void requireName(int name) {
        if (!isName(name)) {
            throw new IllegalArgumentException("no such name");
        }
    }

    private void requireNode(int node) {
        if (!nodes.has(node)) {
            throw new NoSuchElementException("no such node");
        }
    }

    private void requirePlaceToStage(int name) {
        if (!staging.hasPlaceFor(name)) {
            throw new IllegalStateException("too many others are staged");
        }
    }

    private void requirePatch(int patch) {
        if (patch < 0 || patch >= patches.patchCount()) {
            throw new NoSuchElementException("no such patch");
        }
    }

    private void requirePlaceForPatch() {
        if (patches.isFull()) {
            throw new IllegalStateException("there are too many patches");
        }
    }

    private void requirePlaceForCommit() {
        if (branches.commitCount() >= MOST_COMMITS) {
            throw new IllegalStateException("there are too many commits");
        }
    }

    private void requireBranch(int branch) {
        if (!branches.hasBranch(branch)) {
            throw new NoSuchElementException("no such branch");
        }
    }

    private static void requireMachine(int machine) {
        if (machine < 0 || machine >= MACHINES) {
            throw new IllegalArgumentException("no such machine");
        }
    }

    private void requireJob(int job) {
        if (job < 0 || job >= jobCount) {
            throw new NoSuchElementException("no such job");
        }
    }

    private void requireDone(int job) {
        if (jobStates[job] != 'd') {
            throw new IllegalStateException("the job is not done");
        }
    }

    private int definitionOf(int name) {
        requireName(name);
        int definition = branches.at(name);
        if (definition == NONE) {
            throw new NoSuchElementException("no definition has this name");
        }
        return definition;
    }

    private int termOf(int name) {
        int definition = definitionOf(name);
        if (codebase.isData(definition)) {
            throw new UnsupportedOperationException("it is data");
        }
        return definition;
    }

    private void takeWhatItBecame(int name) {
        int became = codebase.became(branches.at(name));
        if (became != NONE) {
            branches.give(name, became);
        }
    }

    private void markReachable(int definition) {
        codebase.beginMarks();
        codebase.mark(definition);
        codebase.sweep();
    }

    private static char kindOfValue(long value) {
        return value == 0 ? 'l' : signOf(value);
    }

    private int firstWaiting(int machine) {
        for (int job = 0; job < jobCount; job++) {
            if (jobStates[job] == 'w' && jobMachines[job] == machine) {
                return job;
            }
        }
        return NONE;
    }

    /** A job for which a definition was worked out before, NONE if there is none. */
    private int firstDone(long hash) {
        for (int job = 0; job < jobCount; job++) {
            if (jobStates[job] == 'd' && jobHashes[job] == hash) {
                return job;
            }
        }
        return NONE;
    }

    private int waitingOn(int machine) {
        int waiting = 0;
        for (int job = 0; job < jobCount; job++) {
            waiting += jobStates[job] == 'w' && jobMachines[job] == machine ? 1 : 0;
        }
        return waiting;
    }

    // Cells: a sign, a number, and a place where more of it stands

    private static long cell(char sign, int ref, int number) {
        return (long) sign << 52 | (long) ref << 32 | number & 0xFFFFFFFFL;
    }

    private static char signOf(long cell) {
        return (char) (cell >> 52);
    }

    private static int refOf(long cell) {
        return (int) (cell >> 32) & 0xFFFFF;
    }

    private static int numberOf(long cell) {
        return (int) cell;
    }

    /** The nodes that were told, each with its depth, its weight and the names that stand in it. */
    private static final class Nodes {
        private final char[] kinds = new char[MOST_NODES];
        private final int[] as = new int[MOST_NODES];
        private final int[] bs = new int[MOST_NODES];
        private final int[] cs = new int[MOST_NODES];
        private final int[] depths = new int[MOST_NODES];
        private final int[] weights = new int[MOST_NODES];
        private final int[] dataNames = new int[MOST_NODES];
        private final int[] termNames = new int[MOST_NODES];
        private int count;

        boolean has(int node) {
            return node >= 0 && node < count;
        }

        char kindAt(int node) {
            return node >= 0 && node < count ? kinds[node] : NOTHING;
        }

        int aAt(int node) {
            return node >= 0 && node < count ? as[node] : NONE;
        }

        int bAt(int node) {
            return node >= 0 && node < count ? bs[node] : NONE;
        }

        int cAt(int node) {
            return node >= 0 && node < count ? cs[node] : NONE;
        }

        /** The names of data in a node and its operands, a bit for each. */
        int dataNamesAt(int node) {
            return node >= 0 && node < count ? dataNames[node] : 0;
        }

        int termNamesAt(int node) {
            return node >= 0 && node < count ? termNames[node] : 0;
        }

        char sortAt(int node) {
            switch (kindAt(node)) {
                case NOTHING:
                    return NOTHING;
                case 'j':
                case '>':
                case 'd':
                    return TYPE_SORT;
                case 'b':
                    return BRANCH_SORT;
                case '+':
                    return CONSTRUCTOR_SORT;
                default:
                    return TERM_SORT;
            }
        }

        /** A letter for each operand that says what it must be; no letters if there is no such kind. */
        private static String rolesOf(char kind) {
            switch (kind) {
                case 'j':
                case 'i':
                    return "---";
                case '>':
                    return "TT-";
                case 'd':
                case 'r':
                    return "n--";
                case 'v':
                    return "v--";
                case 'f':
                    return "Tt-";
                case 'a':
                case 'l':
                    return "tt-";
                case 'o':
                    return "tto";
                case '?':
                    return "ttt";
                case 'm':
                    return "nku";
                case 'c':
                    return "ntB";
                case 'b':
                    return "tX-";
                case '+':
                    return "UY-";
                default:
                    return "";
            }
        }

        boolean fits(char kind, int a, int b, int c) {
            String roles = rolesOf(kind);
            return roles.length() == 3 && fitsRole(roles.charAt(0), a) && fitsRole(roles.charAt(1), b)
                && fitsRole(roles.charAt(2), c);
        }

        private boolean fitsRole(char role, int operand) {
            switch (role) {
                case TYPE_SORT:
                case TERM_SORT:
                case BRANCH_SORT:
                    return sortAt(operand) == role;
                case 'U':
                    return operand == NONE || sortAt(operand) == TYPE_SORT;
                case 'u':
                    return operand == NONE || sortAt(operand) == TERM_SORT;
                case 'X':
                    return operand == NONE || sortAt(operand) == BRANCH_SORT;
                case 'Y':
                    return operand == NONE || sortAt(operand) == CONSTRUCTOR_SORT;
                case 'n':
                    return isName(operand);
                case 'v':
                    return operand >= 0 && operand <= MOST_VARIABLE;
                case 'k':
                    return operand >= 0 && operand < MOST_CONSTRUCTORS;
                case 'o':
                    return operand >= 0 && operand < OPERATORS;
                default:
                    return true;
            }
        }

        /** How much deeper a node is than an operand with this role, NONE if that is no node. */
        private static int stepOf(char role) {
            switch (role) {
                case TYPE_SORT:
                case TERM_SORT:
                case BRANCH_SORT:
                case 'U':
                case 'u':
                    return 1;
                case 'X':
                case 'Y':
                    return 0;
                default:
                    return NONE;
            }
        }

        /** Tells a node that fits; answers NONE if there are too many, or it is too deep or too heavy. */
        int tell(char kind, int a, int b, int c) {
            String roles = rolesOf(kind);
            if (count >= MOST_NODES || roles.length() != 3) {
                return NONE;
            }
            int depth = 1;
            int weight = 1;
            int data = kind == 'd' || kind == 'm' || kind == 'c' ? 1 << a : 0;
            int terms = kind == 'r' ? 1 << a : 0;
            for (int i = 0; i < 3; i++) {
                int operand = i == 0 ? a : i == 1 ? b : c;
                int step = stepOf(roles.charAt(i));
                if (step == NONE || !has(operand)) {
                    continue;
                }
                depth = Math.max(depth, depths[operand] + step);
                weight += weights[operand];
                data |= dataNames[operand];
                terms |= termNames[operand];
            }
            if (depth > MOST_DEPTH || weight > MOST_WEIGHT) {
                return NONE;
            }
            kinds[count] = kind;
            as[count] = a;
            bs[count] = b;
            cs[count] = c;
            depths[count] = depth;
            weights[count] = weight;
            dataNames[count] = data;
            termNames[count] = terms;
            count++;
            return count - 1;
        }
    }

    /**
     * A row of numbers, 0 at first, that grows by parts, so that what is there is never copied. The rows
     * of a commons share the parts: what is cut off one row is there for all.
     */
    private static final class Row {
        private static final int UNMADE = 0;
        private static final int SPARE = 1;

        private final long[] numbers;
        private final Row[] parts;
        private final Row[] spare;
        private final int[] left;

        /** A part of a row. */
        Row() {
            numbers = new long[PART];
            parts = null;
            spare = null;
            left = null;
        }

        /** A row of at most as many parts. */
        Row(int most, Row[] spare, int[] left) {
            numbers = null;
            parts = new Row[Math.max(most, 0)];
            this.spare = spare;
            this.left = left;
        }

        /** A further row, with which this one shares the parts. */
        Row another(int most) {
            return new Row(most, spare, left);
        }

        /** How many parts can still be taken. */
        int partsLeft() {
            return left == null || left.length <= SPARE ? 0 : left[UNMADE] + left[SPARE];
        }

        long at(int index) {
            int part = index >> PART_BITS;
            if (parts == null || part < 0 || part >= parts.length || parts[part] == null) {
                return 0;
            }
            long[] there = parts[part].numbers;
            return there == null ? 0 : there[index & PART - 1];
        }

        /** Answers false, and puts nothing, if no part is left for it. */
        boolean put(int index, long number) {
            int part = index >> PART_BITS;
            if (parts == null || left == null || left.length <= SPARE || part < 0 || part >= parts.length) {
                return false;
            }
            int last = left[SPARE] - 1;
            if (parts[part] == null && spare != null && last >= 0 && last < spare.length) {
                parts[part] = spare[last];
                spare[last] = null;
                left[SPARE] = last;
            }
            if (parts[part] == null && left[UNMADE] > 0) {
                parts[part] = new Row();
                left[UNMADE]--;
            }
            long[] there = parts[part] == null ? null : parts[part].numbers;
            if (there == null) {
                return false;
            }
            there[index & PART - 1] = number;
            return true;
        }

        /** Takes bits out of all numbers. */
        void takeBits(long bits) {
            for (int part = 0; parts != null && part < parts.length; part++) {
                if (parts[part] != null) {
                    parts[part].takeOwnBits(bits);
                }
            }
        }

        private void takeOwnBits(long bits) {
            for (int i = 0; numbers != null && i < numbers.length; i++) {
                numbers[i] &= ~bits;
            }
        }

        /** Gives back the parts that stand behind the first numbers, emptied. */
        void cut(int length) {
            int first = Math.max(length, 0) + PART - 1 >> PART_BITS;
            for (int part = first; parts != null && part < parts.length; part++) {
                giveBack(part);
            }
        }

        private void giveBack(int part) {
            if (parts == null || spare == null || left == null || left.length <= SPARE || parts[part] == null) {
                return;
            }
            int to = left[SPARE];
            if (to >= 0 && to < spare.length) {
                parts[part].takeOwnBits(-1L);
                spare[to] = parts[part];
                parts[part] = null;
                left[SPARE]++;
            }
        }
    }

    /**
     * The definitions, each a number: drafts first, then what is in the codebase, in the order in which it
     * was made. A definition is nodes, and what the names in them mean, data first, then terms; data
     * itself stands for itself within it.
     *
     * <p>Each one stands behind those that it needs, but for what was settled together; this begins with
     * one that has the sign START, and is in the order of its places. What was settled as a group need not
     * be one: a member can have a hash that was there before.
     *
     * <p>So that there is room for many, each one is three numbers: its hash; its link, which is what is
     * next in its bucket, what it becomes, and signs; and what it says. For more than two names this tells
     * where in a further row they stand, three to a number.
     */
    private static final class Codebase {
        private static final long INDEX = (1L << INDEX_BITS) - 1;
        private static final long BOTH = (1L << 2 * INDEX_BITS) - 1;

        private static final long START = 1L << 42;
        private static final long MARK = 1L << 43;
        private static final long CARRIED = 1L << 44;
        private static final long RESOLVED = 1L << 45;
        private static final long DIFFERS = 1L << 46;
        private static final int MACHINE_SHIFT = 47;

        private static final int COUNT_SHIFT = 42;
        private static final int OUTSIDE = 3;
        private static final long DATA = 1L << 44;
        private static final int TERM_SHIFT = 45;
        private static final int TERM = 0x1FF;
        private static final int TYPE_SHIFT = 54;
        private static final int TYPE = 0x3FF;
        private static final int MEANINGS = 2 * NAMES;

        private final Nodes nodes;
        private final Machines machines;
        private final Row hashes;
        private final Row links;
        private final Row bodies;
        private final Row further;
        private final Row heads;
        private final Row anews;
        private final int[] draftMeanings = new int[DRAFTS * MEANINGS];
        private final int[] settled = new int[DRAFTS];
        private int headCount = PART;
        private int end = DRAFTS;
        private int furtherEnd;

        Codebase(Nodes nodes, Machines machines, Row room) {
            this.nodes = nodes;
            this.machines = machines;
            hashes = room.another(INDEX_PARTS);
            links = room.another(INDEX_PARTS);
            bodies = room.another(INDEX_PARTS);
            further = room.another(MOST_PARTS);
            heads = room.another(INDEX_PARTS);
            anews = room.another(INDEX_PARTS);
        }

        // What a definition says

        /** Shapes a draft; data has a number of its own, or 0, where a term has its type. */
        void shape(int draft, boolean isData, int typeOrOwn, int term) {
            long says = (long) (typeOrOwn & TYPE) << TYPE_SHIFT | (long) (term & TERM) << TERM_SHIFT;
            bodies.put(draft, isData ? says | DATA : says);
        }

        boolean isData(int definition) {
            return (bodies.at(definition) & DATA) != 0;
        }

        /** The number of its own that data has, 0 for none. */
        int ownOf(int data) {
            return (int) (bodies.at(data) >> TYPE_SHIFT) & TYPE;
        }

        int typeNode(int term) {
            long says = bodies.at(term);
            return term < 0 || (says & DATA) != 0 ? NONE : (int) (says >> TYPE_SHIFT) & TYPE;
        }

        int termNode(int definition) {
            return definition < 0 ? NONE : (int) (bodies.at(definition) >> TERM_SHIFT) & TERM;
        }

        /** The names of data that stand in a definition, a bit for each; they are the first ones. */
        int dataNames(int definition) {
            long says = bodies.at(definition);
            int inType = (says & DATA) != 0 ? 0 : nodes.dataNamesAt((int) (says >> TYPE_SHIFT) & TYPE);
            return inType | nodes.dataNamesAt((int) (says >> TERM_SHIFT) & TERM);
        }

        int termNames(int definition) {
            return nodes.termNamesAt((int) (bodies.at(definition) >> TERM_SHIFT) & TERM);
        }

        /** Which one of the names in a definition a name of data or of a term is, NONE if it is not in it. */
        int slotOf(int definition, int name, boolean isTerm) {
            long says = bodies.at(definition);
            int term = (int) (says >> TERM_SHIFT) & TERM;
            int inType = (says & DATA) != 0 ? 0 : nodes.dataNamesAt((int) (says >> TYPE_SHIFT) & TYPE);
            int data = inType | nodes.dataNamesAt(term);
            int names = isTerm ? nodes.termNamesAt(term) : data;
            if (definition < 0 || !isName(name) || (names >> name & 1) == 0) {
                return NONE;
            }
            return Integer.bitCount(names & (1 << name) - 1) + (isTerm ? Integer.bitCount(data) : 0);
        }

        /** What a name of data means in a definition, NONE if it is not in it. */
        int dataAt(int definition, int name) {
            return meaning(definition, slotOf(definition, name, false));
        }

        int termAt(int definition, int name) {
            return meaning(definition, slotOf(definition, name, true));
        }

        int meaningCount(int definition) {
            int inside = (int) (bodies.at(definition) >> COUNT_SHIFT) & OUTSIDE;
            if (definition >= DRAFTS && inside != OUTSIDE) {
                return inside;
            }
            return Integer.bitCount(dataNames(definition)) + Integer.bitCount(termNames(definition));
        }

        int meaning(int definition, int slot) {
            if (slot < 0) {
                return NONE;
            }
            if (definition < DRAFTS) {
                int at = definition * MEANINGS + slot;
                return at >= 0 && at < draftMeanings.length ? draftMeanings[at] : NONE;
            }
            long says = bodies.at(definition);
            if (((says >> COUNT_SHIFT) & OUTSIDE) == OUTSIDE) {
                return indexIn(further.at((int) (says & BOTH) + slot / 3), slot % 3);
            }
            return indexIn(says, slot);
        }

        /** One of the definitions that stand together in a number, NONE for 0. */
        private static int indexIn(long number, int place) {
            int index = (int) (number >> place * INDEX_BITS & INDEX);
            return index == 0 ? NONE : index;
        }

        void setMeaning(int draft, int slot, int meaning) {
            int at = draft * MEANINGS + slot;
            if (at >= 0 && at < draftMeanings.length) {
                draftMeanings[at] = meaning;
            }
        }

        /** Whether another one, or itself, is needed at first hand; data do not need themselves. */
        boolean uses(int definition, int other) {
            if (definition == other && isData(definition)) {
                return false;
            }
            int count = meaningCount(definition);
            for (int slot = 0; slot < count; slot++) {
                if (meaning(definition, slot) == other) {
                    return true;
                }
            }
            return false;
        }

        boolean usesChanged(int definition) {
            int count = meaningCount(definition);
            for (int slot = 0; slot < count; slot++) {
                if (became(meaning(definition, slot)) != NONE) {
                    return true;
                }
            }
            return false;
        }

        // Hashes

        long hashAt(int definition) {
            return hashes.at(definition);
        }

        /** The hash, or the one that was found anew last. */
        long hashOf(int definition, boolean isAnew) {
            return isAnew && (links.at(definition) & DIFFERS) != 0 ? anews.at(definition) : hashes.at(definition);
        }

        /** Of what is found anew only that is noted which differs. */
        void setHash(int definition, long hash, boolean isAnew) {
            if (!isAnew) {
                hashes.put(definition, hash);
            } else if (hashes.at(definition) != hash) {
                anews.put(definition, hash);
                setSign(definition, DIFFERS);
            }
        }

        private int headOf(long hash) {
            return (int) (hash ^ hash >>> 32) & headCount - 1;
        }

        /** What is in the codebase with a hash, NONE for nothing. */
        int find(long hash) {
            int head = headOf(hash);
            int found = indexIn(heads.at(head / 3), head % 3);
            for (int i = 0; i < end && found != NONE; i++) {
                if (hashes.at(found) == hash) {
                    return found;
                }
                found = indexIn(links.at(found), 0);
            }
            return NONE;
        }

        private void link(int row) {
            int head = headOf(hashes.at(row));
            long three = heads.at(head / 3);
            int shift = head % 3 * INDEX_BITS;
            int next = Math.max(indexIn(three, head % 3), 0);
            links.put(row, links.at(row) & ~INDEX | next);
            heads.put(head / 3, three & ~(INDEX << shift) | (long) row << shift);
        }

        /** Makes all buckets anew, after what is next was used for something else, or with more or less of them. */
        void linkAnew() {
            for (int i = 0; i <= headCount / 3; i++) {
                heads.put(i, 0);
            }
            heads.cut(headCount / 3 + 1);
            for (int row = DRAFTS; row < end; row++) {
                link(row);
            }
        }

        private int next(int definition) {
            return indexIn(links.at(definition), 0);
        }

        private void setNext(int row, int next) {
            links.put(row, links.at(row) & ~INDEX | (next < 0 ? 0 : next));
        }

        // What is kept

        int first() {
            return DRAFTS;
        }

        /** The index behind all definitions. */
        int behind() {
            return end;
        }

        int keptCount() {
            return end - DRAFTS;
        }

        /** Whether further numbers leave as many parts. */
        boolean hasRoomFor(int numbers, int reserve) {
            return hashes.partsLeft() - (numbers >> PART_BITS) > reserve;
        }

        /** Whether there is room for what is carried along, which leaves enough for what is staged. */
        boolean canCarry(int numbers) {
            return end < MOST_DEFINITIONS - CARRY_DEFINITIONS && hasRoomFor(numbers, CARRY_RESERVE);
        }

        /** Keeps the members of a group that is hashed, each hash once; answers how many are new. */
        int settle(Groups groups) {
            int before = end;
            int fresh = 0;
            for (int i = 0; i < groups.size(); i++) {
                int draft = groups.member(i);
                int there = find(hashAt(draft));
                if (there == NONE) {
                    there = append(draft, end == before);
                    fresh |= 1 << i;
                }
                if (draft >= 0 && draft < DRAFTS) {
                    settled[draft] = there;
                }
            }
            for (int i = 0; i < groups.size(); i++) {
                if ((fresh >> i & 1) != 0) {
                    takeMeanings(groups.member(i));
                }
            }
            return end - before;
        }

        /** What is kept for a draft that was settled; others are what they are. */
        int settledFor(int definition) {
            return definition >= 0 && definition < DRAFTS ? settled[definition] : definition;
        }

        private int append(int draft, boolean isStart) {
            if (end >= MOST_DEFINITIONS || !hasRoomFor(0, LEAST_PARTS)) {
                return NONE;
            }
            if (end > HEAD_LOAD * headCount && hasRoomFor(headCount, CARRY_RESERVE)) {
                headCount *= 2;
                linkAnew();
            }
            int row = end;
            long hash = hashes.at(draft);
            end++;
            hashes.put(row, hash);
            links.put(row, (long) machines.maskOf(hash) << MACHINE_SHIFT | (isStart ? START : 0));
            link(row);
            return row;
        }

        private void takeMeanings(int draft) {
            int row = settledFor(draft);
            if (row < DRAFTS) {
                return;
            }
            int count = meaningCount(draft);
            long says = bodies.at(draft);
            if (count < OUTSIDE) {
                bodies.put(row, says | (long) count << COUNT_SHIFT | settledMeanings(draft, 0, count));
                return;
            }
            bodies.put(row, says | (long) OUTSIDE << COUNT_SHIFT | furtherEnd);
            for (int slot = 0; slot < count; slot += 3) {
                further.put(furtherEnd, settledMeanings(draft, slot, count));
                furtherEnd++;
            }
        }

        /** At most three meanings, in one number. */
        private long settledMeanings(int draft, int start, int end) {
            long together = 0;
            for (int i = 0; i < 3 && start + i < end; i++) {
                int meaning = settledFor(meaning(draft, start + i));
                together |= (meaning < 0 ? 0L : meaning) << i * INDEX_BITS;
            }
            return together;
        }

        // Dropping

        /** Gives what is marked the numbers that it has when all else is dropped. */
        void numberMarked() {
            int to = DRAFTS;
            for (int row = DRAFTS; row < end; row++) {
                boolean stays = hasSign(row, MARK);
                setNext(row, stays ? to : NONE);
                to += stays ? 1 : 0;
            }
        }

        /** The number that a definition is given, NONE if it is dropped. */
        int movedTo(int definition) {
            return definition < DRAFTS ? NONE : next(definition);
        }

        /** Drops what is given no number. What it says goes first, so that there is room for what machines keep. */
        void dropUnmarked() {
            int kept = moveBodies();
            bodies.cut(kept);
            further.cut(furtherEnd);
            for (int row = DRAFTS; row < end; row++) {
                int mask = (int) (links.at(row) >> MACHINE_SHIFT) & ALL_MACHINES;
                if (next(row) == NONE && mask != 0) {
                    machines.keep(hashes.at(row), mask);
                }
            }
            moveLinks();
            end = kept;
            hashes.cut(end);
            links.cut(end);
            headCount = PART;
            while (end > HEAD_LOAD * headCount && headCount < MOST_DEFINITIONS) {
                headCount *= 2;
            }
            linkAnew();
        }

        private int moveBodies() {
            int to = DRAFTS;
            int from;
            furtherEnd = 0;
            for (int row = DRAFTS; row < end; row++) {
                if (next(row) == NONE) {
                    continue;
                }
                long says = bodies.at(row);
                if (((says >> COUNT_SHIFT) & OUTSIDE) == OUTSIDE) {
                    from = (int) (says & BOTH);
                    says = says & ~BOTH | furtherEnd;
                    int numbers = (meaningCount(row) + 2) / 3;
                    for (int i = 0; i < numbers; i++) {
                        further.put(furtherEnd, moved(further.at(from + i)));
                        furtherEnd++;
                    }
                } else {
                    says = says & ~BOTH | moved(says & BOTH);
                }
                bodies.put(to, says);
                to++;
            }
            return to;
        }

        private long moved(long meanings) {
            long to = 0;
            for (int i = 0; i < 3; i++) {
                int meaning = indexIn(meanings, i);
                to |= (meaning < 0 ? 0L : Math.max(next(meaning), 0)) << i * INDEX_BITS;
            }
            return to;
        }

        private void moveLinks() {
            boolean isStart = false;
            for (int row = DRAFTS; row < end; row++) {
                long link = links.at(row);
                int to = indexIn(link, 0);
                isStart = isStart || (link & START) != 0;
                if (to != NONE) {
                    hashes.put(to, hashes.at(row));
                    links.put(to, isStart ? link | START : link);
                    isStart = false;
                }
            }
        }

        // Signs

        private boolean hasSign(int definition, long sign) {
            return (links.at(definition) & sign) != 0;
        }

        private void setSign(int definition, long sign) {
            if (definition >= DRAFTS && definition < end) {
                links.put(definition, links.at(definition) | sign);
            }
        }

        private void takeSigns(long signs) {
            links.takeBits(signs);
        }

        void beginMarks() {
            takeSigns(MARK);
        }

        void mark(int definition) {
            if (definition >= DRAFTS && definition < end) {
                links.put(definition, links.at(definition) | MARK);
            }
        }

        boolean isMarked(int definition) {
            return hasSign(definition, MARK);
        }

        private void markUsed(int definition) {
            int count = meaningCount(definition);
            boolean isData = isData(definition);
            for (int slot = 0; slot < count; slot++) {
                int used = meaning(definition, slot);
                if (!isData || used != definition) {
                    mark(used);
                }
            }
        }

        void markAllNeededBy(int definition) {
            beginMarks();
            markUsed(definition);
            sweep();
        }

        void markAllKept() {
            for (int row = DRAFTS; row < end; row++) {
                mark(row);
            }
        }

        /** Whether what was settled together begins with a definition. */
        boolean isStart(int row) {
            return hasSign(row, START);
        }

        /** The index behind what was settled together from one on. */
        int endFrom(int start) {
            int behind = start + 1;
            while (behind < end && !isStart(behind)) {
                behind++;
            }
            return behind;
        }

        /** One way through all is enough: whatever is needed stands ahead, or was settled together. */
        void sweep() {
            int behind = end;
            for (int start = end - 1; start >= DRAFTS; start--) {
                if (isStart(start)) {
                    spread(start, behind);
                    behind = start;
                }
            }
        }

        /** Among those settled together marks go to and fro, at most once for each of them. */
        private void spread(int start, int behind) {
            for (int round = start; round < behind; round++) {
                for (int row = start; row < behind; row++) {
                    if (isMarked(row)) {
                        markUsed(row);
                    }
                }
            }
        }

        int markedCount() {
            int count = 0;
            for (int row = DRAFTS; row < end; row++) {
                count += isMarked(row) ? 1 : 0;
            }
            return count;
        }

        // What machines have

        int markedWithout(int machine) {
            int count = 0;
            for (int row = DRAFTS; row < end; row++) {
                long link = links.at(row);
                count += (link & MARK) != 0 && (link >> MACHINE_SHIFT + machine & 1) == 0 ? 1 : 0;
            }
            return count;
        }

        int sendMarked(int machine) {
            int count = markedWithout(machine);
            for (int row = DRAFTS; row < end; row++) {
                if (isMarked(row)) {
                    setSign(row, 1L << MACHINE_SHIFT + machine);
                }
            }
            return count;
        }

        void emptyMachine(int machine) {
            takeSigns(1L << MACHINE_SHIFT + machine);
        }

        // Changes

        /** What its hash becomes by what is going on, NONE if it stays. */
        int became(int definition) {
            return definition < DRAFTS ? NONE : indexIn(links.at(definition), 1);
        }

        void setBecame(int definition, int to) {
            if (definition >= DRAFTS && definition < end) {
                long link = links.at(definition) & ~(INDEX << INDEX_BITS);
                links.put(definition, link | (to < 0 ? 0L : to) << INDEX_BITS);
            }
        }

        boolean isCarried(int definition) {
            return definition >= 0 && hasSign(definition, CARRIED);
        }

        void setCarried(int definition, int to) {
            setBecame(definition, to);
            setSign(definition, CARRIED);
        }

        /** Whether it is known what a definition becomes in the end. */
        boolean isResolved(int definition) {
            return definition >= 0 && hasSign(definition, RESOLVED);
        }

        void setResolved(int definition, int to) {
            if (definition >= DRAFTS && definition < end) {
                long link = links.at(definition) & ~(INDEX << INDEX_BITS) | RESOLVED;
                links.put(definition, link | (to < 0 ? 0L : to) << INDEX_BITS);
            }
        }

        void forgetChanges() {
            takeSigns(INDEX << INDEX_BITS | CARRIED | RESOLVED);
        }

        /** Puts what they become aside, in place of what is next in the buckets. */
        void putAside() {
            for (int row = DRAFTS; row < end; row++) {
                setNext(row, became(row));
            }
            forgetChanges();
        }

        /** What was put aside goes on by what they become now. */
        void composeAside() {
            for (int row = DRAFTS; row < end; row++) {
                int first = next(row);
                int second = became(first == NONE ? row : first);
                setNext(row, second == NONE ? first : second);
            }
            for (int row = DRAFTS; row < end; row++) {
                setBecame(row, next(row));
            }
        }

        /** Whether one of those that are marked, and become no other yet, needs one that does. */
        boolean isToChange(int start, int behind) {
            for (int row = start; row < behind; row++) {
                if (isMarked(row) && became(row) == NONE && usesChanged(row)) {
                    return true;
                }
            }
            return false;
        }

        /** Makes a draft say what a definition says, each hash in it replaced once. */
        void copyReplaced(int definition, int draft, int[] originals, int count) {
            boolean isData = isData(definition);
            shape(draft, isData, isData ? ownOf(definition) : typeNode(definition), termNode(definition));
            int used = meaningCount(definition);
            for (int slot = 0; slot < used; slot++) {
                int meaning = meaning(definition, slot);
                int to = became(meaning) != NONE ? became(meaning) : meaning;
                for (int i = 0; i < count && i < originals.length; i++) {
                    to = originals[i] == meaning ? FIRST_COPY + i : to;
                }
                setMeaning(draft, slot, to);
            }
        }

        // Finding anew

        void hashMarkedAnew(Groups groups) {
            takeSigns(DIFFERS);
            groups.setAnew(true);
            for (int start = DRAFTS; start < end; start++) {
                if (!isStart(start)) {
                    continue;
                }
                int behind = endFrom(start);
                groups.clear();
                for (int row = start; row < behind; row++) {
                    if (isMarked(row)) {
                        groups.add(row);
                    }
                }
                groups.connect();
                for (int i = 0; i < MOST_STAGED && groups.nextGroup(); i++) {
                    groups.hashMembers();
                }
            }
            groups.setAnew(false);
        }

        /** Gives back what was taken for hashes that differ. */
        void forgetAnew() {
            anews.cut(0);
        }

        boolean areMarkedSound(Checker checker) {
            for (int row = DRAFTS; row < end; row++) {
                if (isMarked(row) && (hasSign(row, DIFFERS) || !isData(row) && !checker.hasItsType(row))) {
                    return false;
                }
            }
            return true;
        }
    }

    /**
     * The machines: which are down, how much went to them, and what they have of what was dropped, by
     * rising hashes, each with a sign for each machine. What they have of the rest is told there.
     */
    private static final class Machines {
        private static final int MASKS = 21;
        /** What has an int as its count is halved so often at most. */
        private static final int MOST_HALVINGS = 32;

        private final Row hashes;
        private final Row masks;
        private int count;
        private boolean isOrdered = true;
        private int downMachines;
        private long sent;

        Machines(Row room) {
            hashes = room.another(MOST_PARTS);
            masks = room.another(MOST_PARTS);
        }

        boolean isDown(int machine) {
            return (downMachines >> machine & 1) != 0;
        }

        void stop(int machine) {
            downMachines |= 1 << machine;
        }

        void start(int machine) {
            downMachines &= ~(1 << machine);
        }

        void noteSent(int definitions) {
            sent += definitions;
        }

        long sentCount() {
            return sent;
        }

        /** Which machines have what was dropped with a hash, a sign for each. */
        int maskOf(long hash) {
            int low = 0;
            int high = count - 1;
            for (int i = 0; i < MOST_HALVINGS && low <= high; i++) {
                int middle = low + high >>> 1;
                long there = hashes.at(middle);
                if (there == hash) {
                    return maskAt(middle);
                }
                if (there < hash) {
                    low = middle + 1;
                } else {
                    high = middle - 1;
                }
            }
            return 0;
        }

        private int maskAt(int index) {
            return (int) (masks.at(index / MASKS) >> index % MASKS * MACHINES) & ALL_MACHINES;
        }

        private boolean put(int index, long hash, int mask) {
            int shift = index % MASKS * MACHINES;
            long others = masks.at(index / MASKS) & ~((long) ALL_MACHINES << shift);
            return hashes.put(index, hash) && masks.put(index / MASKS, others | (long) mask << shift);
        }

        /** Keeps what is dropped, behind the rest at first. */
        void keep(long hash, int mask) {
            if (put(count, hash, mask)) {
                count++;
                isOrdered = false;
            }
        }

        private void swap(int one, int other) {
            long hash = hashes.at(one);
            int mask = maskAt(one);
            put(one, hashes.at(other), maskAt(other));
            put(other, hash, mask);
        }

        /** Puts all in their order, each hash once, and leaves out what is in the codebase. */
        void arrange(Codebase codebase) {
            if (!isOrdered) {
                order();
            }
            int to = 0;
            for (int i = 0; i < count; i++) {
                long hash = hashes.at(i);
                int mask = maskAt(i);
                if (to > 0 && hashes.at(to - 1) == hash) {
                    put(to - 1, hash, maskAt(to - 1) | mask);
                } else if (codebase.find(hash) == NONE) {
                    put(to, hash, mask);
                    to++;
                }
            }
            cut(to);
        }

        private void order() {
            for (int root = count / 2 - 1; root >= 0; root--) {
                sink(root, count);
            }
            for (int last = count - 1; last > 0; last--) {
                swap(0, last);
                sink(0, last);
            }
            isOrdered = true;
        }

        private void sink(int start, int behind) {
            int at = start;
            for (int i = 0; i < MOST_HALVINGS && 2 * at + 1 < behind; i++) {
                int child = 2 * at + 1;
                if (child + 1 < behind && hashes.at(child) < hashes.at(child + 1)) {
                    child++;
                }
                if (hashes.at(at) >= hashes.at(child)) {
                    return;
                }
                swap(at, child);
                at = child;
            }
        }

        private void cut(int to) {
            count = to;
            hashes.cut(count);
            masks.cut(count / MASKS + 1);
        }

        /** A machine loses all that it has. */
        void empty(int machine) {
            int to = 0;
            for (int i = 0; i < count; i++) {
                int mask = maskAt(i) & ~(1 << machine);
                if (mask != 0) {
                    put(to, hashes.at(i), mask);
                    to++;
                }
            }
            cut(to);
        }
    }

    /** Parts at most eight definitions into groups that need one another, and hashes these. */
    private static final class Groups {
        private final Nodes nodes;
        private final Codebase codebase;
        private final int[] items = new int[MOST_STAGED];
        private final int[] reach = new int[MOST_STAGED];
        private final int[] members = new int[MOST_STAGED];
        private final long[] keys = new long[MOST_STAGED];
        private int itemCount;
        private int memberCount;
        private int left;
        private boolean isAnew;

        Groups(Nodes nodes, Codebase codebase) {
            this.nodes = nodes;
            this.codebase = codebase;
        }

        /** Whether hashes are found anew from what was found anew, beside those that are kept. */
        void setAnew(boolean isAnew) {
            this.isAnew = isAnew;
        }

        void clear() {
            itemCount = 0;
            memberCount = 0;
            left = 0;
        }

        void add(int definition) {
            if (itemCount < MOST_STAGED) {
                items[itemCount] = definition;
                itemCount++;
            }
        }

        int size() {
            return memberCount;
        }

        int member(int index) {
            return index >= 0 && index < memberCount ? members[index] : NONE;
        }

        void setMember(int index, int definition) {
            if (index >= 0 && index < memberCount) {
                members[index] = definition;
            }
        }

        /** Finds which items need which, over others or not, among themselves. */
        void connect() {
            for (int i = 0; i < itemCount; i++) {
                reach[i] = 0;
                for (int j = 0; j < itemCount; j++) {
                    reach[i] |= codebase.uses(items[i], items[j]) ? 1 << j : 0;
                }
            }
            for (int over = 0; over < itemCount; over++) {
                for (int i = 0; i < itemCount; i++) {
                    reach[i] |= (reach[i] >> over & 1) != 0 ? reach[over] : 0;
                }
            }
            left = (1 << itemCount) - 1;
        }

        /** Makes the members those of the first group that needs no group which is still left. */
        boolean nextGroup() {
            for (int i = 0; i < itemCount; i++) {
                int group = groupOf(i);
                if ((left >> i & 1) != 0 && (reach[i] & left & ~group) == 0) {
                    left &= ~group;
                    gather(group);
                    return true;
                }
            }
            return false;
        }

        private int groupOf(int index) {
            int group = 1 << index;
            for (int other = 0; other < itemCount; other++) {
                if ((reach[index] >> other & 1) != 0 && (reach[other] >> index & 1) != 0) {
                    group |= 1 << other;
                }
            }
            return group;
        }

        private void gather(int group) {
            memberCount = 0;
            for (int i = 0; i < itemCount; i++) {
                if ((group >> i & 1) != 0) {
                    members[memberCount] = items[i];
                    memberCount++;
                }
            }
        }

        /** Makes one definition the only member, without a look at what it needs. */
        void setOnly(int definition) {
            members[0] = definition;
            memberCount = 1;
        }

        /**
         * Hashes the members, which stand in the order of their places then. Those with the same rows
         * keep the order in which they were gathered.
         */
        void hashMembers() {
            if (memberCount == 1 && !codebase.uses(members[0], members[0])) {
                codebase.setHash(members[0], rowOf(ROW_START, members[0], false), isAnew);
                return;
            }
            for (int i = 0; i < memberCount; i++) {
                int member = members[i];
                long key = rowOf(ROW_START, member, true);
                int at = i;
                while (at > 0 && keys[at - 1] > key) {
                    keys[at] = keys[at - 1];
                    members[at] = members[at - 1];
                    at--;
                }
                keys[at] = key;
                members[at] = member;
            }
            long whole = mix(mix(ROW_START, 32), memberCount);
            for (int i = 0; i < memberCount; i++) {
                whole = rowOf(whole, members[i], false);
            }
            for (int i = 0; i < memberCount; i++) {
                codebase.setHash(members[i], mix(mix(mix(ROW_START, 33), whole), i), isAnew);
            }
        }

        private static long mix(long row, long number) {
            return ((row << 5 | row >>> 59) ^ number) * ROW_FACTOR;
        }

        private long rowOf(long row, int definition, boolean isPlaceless) {
            if (codebase.isData(definition)) {
                return dataRow(row, definition);
            }
            long typed = typeRow(mix(row, 31), codebase.typeNode(definition), definition, 0);
            return termRow(typed, codebase.termNode(definition), definition, isPlaceless, 0);
        }

        private long dataRow(long start, int data) {
            int constructors = 0;
            int at = codebase.termNode(data);
            for (int i = 0; i < MOST_WEIGHT && at >= 0; i++) {
                constructors++;
                at = nodes.bAt(at);
            }
            long row = mix(mix(mix(start, 30), codebase.ownOf(data)), constructors);
            at = codebase.termNode(data);
            for (int i = 0; i < constructors; i++) {
                int argument = nodes.aAt(at);
                row = argument < 0 ? mix(row, 0) : typeRow(mix(row, 1), argument, data, 0);
                at = nodes.bAt(at);
            }
            return row;
        }

        private long typeRow(long row, int node, int in, int depth) {
            if (depth > DEEPEST) {
                return row;
            }
            switch (nodes.kindAt(node)) {
                case '>':
                    long from = typeRow(mix(row, 2), nodes.aAt(node), in, depth + 1);
                    return typeRow(from, nodes.bAt(node), in, depth + 1);
                case 'd':
                    int data = codebase.meaning(in, codebase.slotOf(in, nodes.aAt(node), false));
                    return data == in ? mix(row, 4) : mix(mix(row, 3), codebase.hashOf(data, isAnew));
                default:
                    return mix(row, 1);
            }
        }

        private long termRow(long row, int node, int in, boolean isPlaceless, int depth) {
            if (depth > DEEPEST) {
                return row;
            }
            int a = nodes.aAt(node);
            int b = nodes.bAt(node);
            int c = nodes.cAt(node);
            long next;
            switch (nodes.kindAt(node)) {
                case 'i':
                    return mix(mix(row, 11), a);
                case 'v':
                    return mix(mix(row, 12), a);
                case 'f':
                    next = typeRow(mix(row, 13), a, in, depth + 1);
                    return termRow(next, b, in, isPlaceless, depth + 1);
                case 'a':
                    next = termRow(mix(row, 14), a, in, isPlaceless, depth + 1);
                    return termRow(next, b, in, isPlaceless, depth + 1);
                case 'o':
                    next = termRow(mix(mix(row, 15), c), a, in, isPlaceless, depth + 1);
                    return termRow(next, b, in, isPlaceless, depth + 1);
                case '?':
                    next = termRow(mix(row, 16), a, in, isPlaceless, depth + 1);
                    next = termRow(next, b, in, isPlaceless, depth + 1);
                    return termRow(next, c, in, isPlaceless, depth + 1);
                case 'l':
                    next = termRow(mix(row, 17), a, in, isPlaceless, depth + 1);
                    return termRow(next, b, in, isPlaceless, depth + 1);
                case 'r':
                    return nameRow(row, codebase.termAt(in, a), isPlaceless);
                case 'm':
                    next = mix(mix(mix(row, 20), codebase.hashOf(codebase.dataAt(in, a), isAnew)), b);
                    return c < 0 ? next : termRow(next, c, in, isPlaceless, depth + 1);
                case 'c':
                    next = mix(mix(row, 21), codebase.hashOf(codebase.dataAt(in, a), isAnew));
                    next = termRow(next, b, in, isPlaceless, depth + 1);
                    return branchRows(next, c, in, isPlaceless, depth + 1);
                default:
                    return row;
            }
        }

        private long nameRow(long row, int named, boolean isPlaceless) {
            for (int place = 0; place < memberCount; place++) {
                if (members[place] == named) {
                    return mix(mix(row, 19), isPlaceless ? 0 : place);
                }
            }
            return mix(mix(row, 18), codebase.hashOf(named, isAnew));
        }

        private long branchRows(long row, int node, int in, boolean isPlaceless, int depth) {
            long next = row;
            int at = node;
            for (int i = 0; i < MOST_WEIGHT && at >= 0; i++) {
                next = termRow(next, nodes.aAt(at), in, isPlaceless, depth + 1);
                at = nodes.bAt(at);
            }
            return next;
        }
    }

    /** Finds the types of terms; a type is a cell, 0 if there is a fault. */
    private static final class Checker {
        private final Nodes nodes;
        private final Codebase codebase;
        private final Row cells;
        private final long[] bound = new long[DEEPEST];
        private int used;

        Checker(Nodes nodes, Codebase codebase, Row cells) {
            this.nodes = nodes;
            this.codebase = codebase;
            this.cells = cells;
        }

        boolean hasItsType(int term) {
            used = FIRST_CELL;
            long told = typeOf(codebase.typeNode(term), term, 0);
            long found = infer(codebase.termNode(term), term, 0, 0);
            return isSame(told, found, 0);
        }

        private long typeOf(int node, int in, int depth) {
            if (depth > DEEPEST) {
                return 0;
            }
            switch (nodes.kindAt(node)) {
                case 'j':
                    return cell('j', 0, 0);
                case '>':
                    long from = typeOf(nodes.aAt(node), in, depth + 1);
                    return functionType(from, typeOf(nodes.bAt(node), in, depth + 1));
                case 'd':
                    return cell('d', 0, codebase.dataAt(in, nodes.aAt(node)));
                default:
                    return 0;
            }
        }

        /** What it is from and what it is to stand behind one another. */
        private long functionType(long from, long to) {
            if (from == 0 || to == 0 || !cells.put(used, from) || !cells.put(used + 1, to)) {
                return 0;
            }
            used += 2;
            return cell('>', used - 2, 0);
        }

        private long fromOf(long function) {
            return cells.at(refOf(function));
        }

        private long toOf(long function) {
            return cells.at(refOf(function) + 1);
        }

        /** What a function is to can be a long chain, so only what it is from is a recursion. */
        private boolean isSame(long type, long other, int depth) {
            long one = type;
            long two = other;
            for (int i = 0; i < MOST_STEPS && depth <= DEEPEST && one != 0 && two != 0; i++) {
                if (one == two) {
                    return true;
                }
                if (signOf(one) != signOf(two)) {
                    return false;
                }
                if (signOf(one) == 'd') {
                    return codebase.hashAt(numberOf(one)) == codebase.hashAt(numberOf(two));
                }
                if (signOf(one) != '>' || !isSame(fromOf(one), fromOf(two), depth + 1)) {
                    return false;
                }
                one = toOf(one);
                two = toOf(two);
            }
            return false;
        }

        private static boolean isInt(long type) {
            return signOf(type) == 'j';
        }

        private boolean isOf(long type, int data) {
            return signOf(type) == 'd' && codebase.hashAt(numberOf(type)) == codebase.hashAt(data);
        }

        private long infer(int node, int in, int binders, int depth) {
            if (depth > DEEPEST) {
                return 0;
            }
            int a = nodes.aAt(node);
            int b = nodes.bAt(node);
            switch (nodes.kindAt(node)) {
                case 'i':
                    return cell('j', 0, 0);
                case 'v':
                    return a >= 0 && a < binders && binders <= bound.length ? bound[binders - 1 - a] : 0;
                case 'f':
                    long from = typeOf(a, in, 0);
                    return functionType(from, inferInside(from, b, in, binders, depth + 1));
                case 'a':
                    return inferApplication(node, in, binders, depth + 1);
                case 'o':
                    boolean areInts = isInt(infer(a, in, binders, depth + 1));
                    areInts = areInts && isInt(infer(b, in, binders, depth + 1));
                    return areInts ? cell('j', 0, 0) : 0;
                case '?':
                    return inferChoice(node, in, binders, depth + 1);
                case 'l':
                    return inferInside(infer(a, in, binders, depth + 1), b, in, binders, depth + 1);
                case 'r':
                    int named = codebase.termAt(in, a);
                    return typeOf(codebase.typeNode(named), named, 0);
                case 'm':
                    return inferConstructor(node, in, binders, depth + 1);
                case 'c':
                    return inferBranches(node, in, binders, depth + 1);
                default:
                    return 0;
            }
        }

        private long inferInside(long type, int node, int in, int binders, int depth) {
            if (type == 0 || binders < 0 || binders >= bound.length) {
                return 0;
            }
            bound[binders] = type;
            return infer(node, in, binders + 1, depth);
        }

        private long inferApplication(int node, int in, int binders, int depth) {
            long function = infer(nodes.aAt(node), in, binders, depth);
            if (signOf(function) != '>') {
                return 0;
            }
            long argument = infer(nodes.bAt(node), in, binders, depth);
            return isSame(fromOf(function), argument, 0) ? toOf(function) : 0;
        }

        private long inferChoice(int node, int in, int binders, int depth) {
            if (!isInt(infer(nodes.aAt(node), in, binders, depth))) {
                return 0;
            }
            long one = infer(nodes.bAt(node), in, binders, depth);
            long other = infer(nodes.cAt(node), in, binders, depth);
            return isSame(one, other, 0) ? one : 0;
        }

        private long inferConstructor(int node, int in, int binders, int depth) {
            int data = codebase.dataAt(in, nodes.aAt(node));
            if (!codebase.isData(data)) {
                return 0;
            }
            int constructor = codebase.termNode(data);
            for (int i = 0; i < nodes.bAt(node) && constructor >= 0; i++) {
                constructor = nodes.bAt(constructor);
            }
            int argument = nodes.aAt(constructor);
            int given = nodes.cAt(node);
            if (constructor < 0 || (argument < 0) != (given < 0)) {
                return 0;
            }
            if (given >= 0 && !isSame(typeOf(argument, data, 0), infer(given, in, binders, depth), 0)) {
                return 0;
            }
            return cell('d', 0, data);
        }

        private long inferBranches(int node, int in, int binders, int depth) {
            int data = codebase.dataAt(in, nodes.aAt(node));
            if (!codebase.isData(data) || !isOf(infer(nodes.bAt(node), in, binders, depth), data)) {
                return 0;
            }
            int branch = nodes.cAt(node);
            int constructor = codebase.termNode(data);
            long common = 0;
            for (int i = 0; i < MOST_WEIGHT && branch >= 0 && constructor >= 0; i++) {
                int argument = nodes.aAt(constructor);
                int term = nodes.aAt(branch);
                long found = argument < 0 ? infer(term, in, binders, depth)
                    : inferInside(typeOf(argument, data, 0), term, in, binders, depth);
                if (found == 0 || common != 0 && !isSame(common, found, 0)) {
                    return 0;
                }
                common = found;
                branch = nodes.bAt(branch);
                constructor = nodes.bAt(constructor);
            }
            return branch < 0 && constructor < 0 ? common : 0;
        }
    }

    /** The names of each branch, and what the commits keep of them. */
    private static final class Branches {
        private final int[] names = new int[MOST_BRANCHES * NAMES];
        private final int[] before = new int[NAMES];
        private final int[] lastCommits = new int[MOST_BRANCHES];
        private final int[] committed = new int[MOST_COMMITS * NAMES];
        private final int[] parents = new int[2 * MOST_COMMITS];
        private final boolean[] isConflict = new boolean[NAMES];
        private int branchCount = 1;
        private int present;
        private int commitsMade;

        Branches() {
            lastCommits[0] = NONE;
            Arrays.fill(names, NONE);
            Arrays.fill(committed, NONE);
        }

        /** The definition to which a name belongs, NONE for none. */
        int at(int name) {
            return isName(name) ? names[present * NAMES + name] : NONE;
        }

        void give(int name, int definition) {
            if (isName(name)) {
                names[present * NAMES + name] = definition;
            }
        }

        int namesOf(int definition) {
            int count = 0;
            for (int name = 0; name < NAMES; name++) {
                count += names[present * NAMES + name] == definition ? 1 : 0;
            }
            return count;
        }

        int lowestNameOf(int definition) {
            for (int name = 0; name < NAMES; name++) {
                if (names[present * NAMES + name] == definition) {
                    return name;
                }
            }
            return NONE;
        }

        /** How many definitions have names in the present branch. */
        int namedCount() {
            int count = 0;
            for (int name = 0; name < NAMES; name++) {
                int definition = at(name);
                count += definition != NONE && lowestNameOf(definition) == name ? 1 : 0;
            }
            return count;
        }

        void markNames(Codebase codebase) {
            for (int name = 0; name < NAMES; name++) {
                codebase.mark(at(name));
            }
        }

        void markAll(Codebase codebase) {
            for (int i = 0; i < names.length; i++) {
                codebase.mark(names[i]);
            }
            for (int i = 0; i < committed.length; i++) {
                codebase.mark(committed[i]);
            }
        }

        /** Takes the numbers that definitions are given when others are dropped. */
        void move(Codebase codebase) {
            for (int i = 0; i < names.length; i++) {
                names[i] = codebase.movedTo(names[i]);
            }
            for (int i = 0; i < committed.length; i++) {
                committed[i] = codebase.movedTo(committed[i]);
            }
        }

        /** Looks at the names of the present branch, for what they change from then on. */
        void lookAtNames() {
            for (int name = 0; name < NAMES; name++) {
                before[name] = at(name);
            }
        }

        /** How many names belong to another definition than when they were looked at. */
        int changedNames() {
            int count = 0;
            for (int name = 0; name < NAMES; name++) {
                count += at(name) == before[name] ? 0 : 1;
            }
            return count;
        }

        boolean hasBranch(int branch) {
            return branch >= 0 && branch < branchCount;
        }

        boolean isPresent(int branch) {
            return branch == present;
        }

        int addBranch() {
            if (branchCount >= MOST_BRANCHES) {
                return NONE;
            }
            for (int name = 0; name < NAMES; name++) {
                names[branchCount * NAMES + name] = names[present * NAMES + name];
            }
            lastCommits[branchCount] = lastCommits[present];
            branchCount++;
            return branchCount - 1;
        }

        int enter(int branch) {
            int left = present;
            if (hasBranch(branch)) {
                present = branch;
            }
            return left;
        }

        boolean hasCommit(int commit) {
            return commit >= 0 && commit < commitsMade;
        }

        int commitCount() {
            return commitsMade;
        }

        int atCommit(int commit, int name) {
            return hasCommit(commit) && isName(name) ? committed[commit * NAMES + name] : NONE;
        }

        /** Commits the present branch, with a further parent if that is not NONE. */
        int recordCommit(int parent) {
            if (commitsMade >= MOST_COMMITS) {
                return NONE;
            }
            for (int name = 0; name < NAMES; name++) {
                committed[commitsMade * NAMES + name] = names[present * NAMES + name];
            }
            parents[2 * commitsMade] = lastCommits[present];
            parents[2 * commitsMade + 1] = parent;
            lastCommits[present] = commitsMade;
            commitsMade++;
            return commitsMade - 1;
        }

        /** A bit for each ancestor; parents have lower numbers than what comes of them. */
        private long ancestorsOf(int commit) {
            if (!hasCommit(commit)) {
                return 0;
            }
            long ancestors = 1L << commit;
            for (int i = commit; i >= 0; i--) {
                if ((ancestors >> i & 1) != 0) {
                    ancestors |= parents[2 * i] < 0 ? 0 : 1L << parents[2 * i];
                    ancestors |= parents[2 * i + 1] < 0 ? 0 : 1L << parents[2 * i + 1];
                }
            }
            return ancestors;
        }

        int commonAncestor(int commit, int other) {
            long common = ancestorsOf(commit) & ancestorsOf(other);
            for (int i = commitsMade - 1; i >= 0; i--) {
                if ((common >> i & 1) != 0) {
                    return i;
                }
            }
            return NONE;
        }

        int mergeIn(int branch) {
            if (!hasBranch(branch)) {
                return 0;
            }
            int base = commonAncestor(lastCommits[present], lastCommits[branch]);
            int conflicts = 0;
            for (int name = 0; name < NAMES; name++) {
                int was = atCommit(base, name);
                int here = names[present * NAMES + name];
                int there = names[branch * NAMES + name];
                isConflict[name] = here != was && there != was && here != there;
                conflicts += isConflict[name] ? 1 : 0;
                if (here == was) {
                    names[present * NAMES + name] = there;
                }
            }
            recordCommit(lastCommits[branch]);
            return conflicts;
        }

        int conflictName(int index) {
            int left = index;
            for (int name = 0; name < NAMES && index >= 0; name++) {
                if (isConflict[name]) {
                    if (left == 0) {
                        return name;
                    }
                    left--;
                }
            }
            return NONE;
        }
    }

    /** What is staged: drafts with names, in their order. */
    private static final class Staging {
        private final Nodes nodes;
        private final Groups groups;
        private final Checker checker;
        private final Codebase codebase;
        private final Branches branches;
        private final int[] drafts = new int[MOST_STAGED];
        private final int[] names = new int[MOST_STAGED];
        private int count;
        private int uniques;
        private int faulty;

        Staging(Nodes nodes, Groups groups, Checker checker, Codebase codebase, Branches branches) {
            this.nodes = nodes;
            this.groups = groups;
            this.checker = checker;
            this.codebase = codebase;
            this.branches = branches;
            for (int i = 0; i < MOST_STAGED; i++) {
                drafts[i] = i;
            }
        }

        int stagedCount() {
            return count;
        }

        private int indexOf(int name) {
            for (int i = 0; i < count; i++) {
                if (names[i] == name) {
                    return i;
                }
            }
            return NONE;
        }

        boolean isStaged(int name) {
            return indexOf(name) != NONE;
        }

        boolean hasPlaceFor(int name) {
            return count < MOST_STAGED || isStaged(name);
        }

        /** Stages behind all others, in place of what had this name; answers how many are staged. */
        int put(int name, boolean isData, int typeOrOwn, int term) {
            int earlier = indexOf(name);
            if (earlier != NONE) {
                moveBehind(earlier);
            } else if (count < MOST_STAGED) {
                count++;
            }
            names[count - 1] = name;
            codebase.shape(drafts[count - 1], isData, typeOrOwn, term);
            return count;
        }

        private void moveBehind(int index) {
            int moved = drafts[index];
            for (int i = index; i + 1 < count; i++) {
                drafts[i] = drafts[i + 1];
                names[i] = names[i + 1];
            }
            drafts[count - 1] = moved;
        }

        /** A number of its own for data that is unique. */
        int nextUnique() {
            uniques++;
            return uniques;
        }

        void clear() {
            count = 0;
        }

        boolean areNamesFree() {
            for (int i = 0; i < count; i++) {
                if (branches.at(names[i]) != NONE) {
                    return false;
                }
            }
            return true;
        }

        boolean haveNamesTheirKind() {
            for (int i = 0; i < count; i++) {
                int old = branches.at(names[i]);
                if (old == NONE || codebase.isData(old) != codebase.isData(drafts[i])) {
                    return false;
                }
            }
            return true;
        }

        int nameOfFault() {
            return faulty;
        }

        /** Finds what the names in the drafts mean, and the types; answers the fault. */
        char lookOver() {
            for (int i = 0; i < count; i++) {
                char fault = codebase.isData(drafts[i]) ? lookAtData(i) : NOTHING;
                if (fault != NOTHING) {
                    faulty = names[i];
                    return fault;
                }
            }
            for (int i = 0; i < count; i++) {
                if (!codebase.isData(drafts[i]) && !findMeanings(drafts[i], count)) {
                    faulty = names[i];
                    return 'n';
                }
            }
            for (int i = 0; i < count; i++) {
                if (!codebase.isData(drafts[i]) && !checker.hasItsType(drafts[i])) {
                    faulty = names[i];
                    return 't';
                }
            }
            return NOTHING;
        }

        private char lookAtData(int index) {
            int draft = drafts[index];
            if (!findMeanings(draft, index + 1)) {
                return 'n';
            }
            int constructor = codebase.termNode(draft);
            for (int i = 0; i < MOST_CONSTRUCTORS && constructor >= 0; i++) {
                constructor = nodes.bAt(constructor);
            }
            if (constructor >= 0) {
                return 'k';
            }
            codebase.setHash(draft, groups.dataRow(ROW_START, draft), false);
            return NOTHING;
        }

        /** Finds what the names in a draft mean; answers whether there is something for each. */
        private boolean findMeanings(int draft, int first) {
            int data = codebase.dataNames(draft);
            int terms = codebase.termNames(draft);
            int slot = 0;
            boolean areThere = true;
            for (int i = 0; i < 2 * NAMES; i++) {
                boolean isData = i < NAMES;
                int name = isData ? i : i - NAMES;
                if (((isData ? data : terms) >> name & 1) == 0) {
                    continue;
                }
                int found = meaning(name, isData, first);
                codebase.setMeaning(draft, slot, found);
                areThere = areThere && found != NONE;
                slot++;
            }
            return areThere;
        }

        /** What a name means: one of the first staged ones, or what is in the branch, NONE for none. */
        private int meaning(int name, boolean isData, int first) {
            int index = indexOf(name);
            if (index != NONE && index < first && codebase.isData(drafts[index]) == isData) {
                return drafts[index];
            }
            int there = branches.at(name);
            return there != NONE && codebase.isData(there) == isData ? there : NONE;
        }

        /** Keeps the drafts, in which there is no fault; answers how many are new. */
        int settle() {
            int fresh = 0;
            for (int i = 0; i < count; i++) {
                if (codebase.isData(drafts[i])) {
                    groups.setOnly(drafts[i]);
                    fresh += codebase.settle(groups);
                }
            }
            groups.clear();
            for (int i = 0; i < count; i++) {
                if (!codebase.isData(drafts[i])) {
                    groups.add(drafts[i]);
                }
            }
            groups.connect();
            for (int i = 0; i < MOST_STAGED && groups.nextGroup(); i++) {
                groups.hashMembers();
                fresh += codebase.settle(groups);
            }
            return fresh;
        }

        /** The hashes that the names have become the new ones; of two for one hash the later counts. */
        void noteChanges() {
            for (int i = 0; i < count; i++) {
                codebase.setBecame(branches.at(names[i]), codebase.settledFor(drafts[i]));
            }
            for (int i = 0; i < count; i++) {
                int old = branches.at(names[i]);
                if (codebase.became(old) == old) {
                    codebase.setBecame(old, NONE);
                }
            }
        }

        void giveNames() {
            for (int i = 0; i < count; i++) {
                branches.give(names[i], codebase.settledFor(drafts[i]));
            }
        }
    }

    /**
     * The patches: each pair of what is kept and what it becomes stands here once, with a sign for each
     * patch in which it is, so that patches that are made of others take no room but for pairs of their own.
     */
    private static final class Patches {
        private static final long INDEX = (1L << INDEX_BITS) - 1;
        private static final int PATCH_SHIFT = 2 * INDEX_BITS;

        private final Codebase codebase;
        private final Row pairs;
        private final int[] sizes = new int[MOST_PATCHES];
        private int count;
        private int end;

        Patches(Codebase codebase, Row room) {
            this.codebase = codebase;
            pairs = room.another(MOST_PARTS);
        }

        int patchCount() {
            return count;
        }

        boolean isFull() {
            return count >= MOST_PATCHES;
        }

        int sizeOf(int patch) {
            return patch >= 0 && patch < count && patch < sizes.length ? sizes[patch] : 0;
        }

        private int from(int index) {
            return (int) (pairs.at(index) & INDEX);
        }

        private int to(int index) {
            return (int) (pairs.at(index) >> INDEX_BITS & INDEX);
        }

        private boolean isIn(int index, int patch) {
            return (pairs.at(index) >> PATCH_SHIFT + patch & 1) != 0;
        }

        private void takeIn(int index, int patch) {
            pairs.put(index, pairs.at(index) | 1L << PATCH_SHIFT + patch);
        }

        void markAll() {
            for (int i = 0; i < end; i++) {
                codebase.mark(from(i));
                codebase.mark(to(i));
            }
        }

        /** Takes the numbers that definitions are given when others are dropped. */
        void move() {
            for (int i = 0; i < end; i++) {
                long patches = pairs.at(i) >> PATCH_SHIFT << PATCH_SHIFT;
                long from = Math.max(codebase.movedTo(from(i)), 0);
                long to = Math.max(codebase.movedTo(to(i)), 0);
                pairs.put(i, patches | to << INDEX_BITS | from);
            }
        }

        private void close(int size) {
            if (count >= 0 && count < sizes.length) {
                sizes[count] = size;
                count++;
            }
        }

        /** Makes a patch of all that becomes another one, or itself, as is noted with the definitions. */
        int addNoted() {
            int size = 0;
            codebase.beginMarks();
            for (int i = 0; i < end; i++) {
                if (codebase.became(from(i)) == to(i)) {
                    takeIn(i, count);
                    codebase.mark(from(i));
                    size++;
                }
            }
            for (int row = codebase.first(); row < codebase.behind(); row++) {
                int to = codebase.became(row);
                if (to != NONE && !codebase.isMarked(row) && codebase.hasRoomFor(0, PATCH_RESERVE)
                    && pairs.put(end, (long) to << INDEX_BITS | row)) {
                    takeIn(end, count);
                    end++;
                    size++;
                }
            }
            close(size);
            return count - 1;
        }

        /** Notes with each definition that a patch keeps what is kept with it. */
        private void note(int patch) {
            for (int i = 0; i < end; i++) {
                if (isIn(i, patch)) {
                    codebase.setBecame(from(i), to(i));
                }
            }
        }

        /** Notes with each definition that a patch keeps what it becomes by it in the end, itself perhaps. */
        private void noteLasts(int patch) {
            note(patch);
            codebase.beginMarks();
            for (int i = 0; i < end; i++) {
                if (isIn(i, patch) && !codebase.isResolved(from(i))) {
                    follow(from(i));
                }
            }
        }

        /**
         * Goes on from a definition until nothing is kept, one comes again, or it is known what comes of
         * one; then notes with all that were passed what they become.
         */
        private void follow(int start) {
            int at = start;
            int next = codebase.became(at);
            codebase.mark(at);
            for (int i = 0; i < end && codebase.became(next) != NONE && !codebase.isMarked(next); i++) {
                codebase.mark(next);
                at = next;
                next = codebase.became(at);
            }
            if (codebase.isResolved(next)) {
                notePassed(start, next, codebase.became(next));
            } else if (codebase.isMarked(next)) {
                notePassed(start, next, at);
                noteRing(next, at);
            } else {
                notePassed(start, next, next);
            }
        }

        private void notePassed(int start, int behind, int last) {
            int at = start;
            for (int i = 0; i < end && at != behind; i++) {
                int next = codebase.became(at);
                codebase.setResolved(at, last);
                at = next;
            }
        }

        /** In a ring each one becomes the one ahead of it. */
        private void noteRing(int start, int aheadOfStart) {
            int ahead = aheadOfStart;
            int at = start;
            for (int i = 0; i < end && !codebase.isResolved(at); i++) {
                int next = codebase.became(at);
                codebase.setResolved(at, ahead);
                ahead = at;
                at = next;
            }
        }

        /** Notes with each definition what it becomes by a patch, if that is another one. */
        void noteChanges(int patch) {
            noteLasts(patch);
            for (int i = 0; i < end; i++) {
                if (codebase.became(from(i)) == from(i)) {
                    codebase.setBecame(from(i), NONE);
                }
            }
        }

        int addComposed(int patch, int other) {
            noteLasts(patch);
            codebase.putAside();
            noteLasts(other);
            codebase.composeAside();
            int made = addNoted();
            codebase.forgetChanges();
            codebase.linkAnew();
            return made;
        }

        /** Answers the number of conflicts. */
        int addMerged(int patch, int other) {
            int conflicts = 0;
            int size = 0;
            note(patch);
            for (int i = 0; i < end; i++) {
                boolean isTaken = isIn(i, patch);
                if (!isTaken && isIn(i, other)) {
                    isTaken = codebase.became(from(i)) == NONE;
                    conflicts += isTaken ? 0 : 1;
                }
                if (isTaken) {
                    takeIn(i, count);
                    size++;
                }
            }
            codebase.forgetChanges();
            close(size);
            return conflicts;
        }
    }

    /** Carries changes along to what needs them, and keeps the names that are to do. */
    private static final class Carrier {
        private final Groups groups;
        private final Checker checker;
        private final Codebase codebase;
        private final Branches branches;
        private final int[] originals = new int[MOST_STAGED];
        private final boolean[] isTodo = new boolean[NAMES];
        private boolean isForPatch;
        private int carried;
        private int old;
        private int next;

        Carrier(Groups groups, Checker checker, Codebase codebase, Branches branches) {
            this.groups = groups;
            this.checker = checker;
            this.codebase = codebase;
            this.branches = branches;
        }

        int todoCount() {
            int count = 0;
            for (int name = 0; name < NAMES; name++) {
                count += isTodo[name] ? 1 : 0;
            }
            return count;
        }

        int todoName(int index) {
            int left = index;
            for (int name = 0; name < NAMES && index >= 0; name++) {
                if (isTodo[name]) {
                    if (left == 0) {
                        return name;
                    }
                    left--;
                }
            }
            return NONE;
        }

        /** How many definitions were replaced. */
        int carriedCount() {
            return carried;
        }

        /** Begins to go through all that can be reached from the names of the branch, for a patch or not. */
        void begin(boolean isForPatch) {
            this.isForPatch = isForPatch;
            for (int name = 0; name < NAMES; name++) {
                isTodo[name] = false;
            }
            carried = 0;
            next = codebase.first();
            old = codebase.behind();
            codebase.beginMarks();
            branches.markNames(codebase);
            codebase.sweep();
            groups.clear();
        }

        /** Finds the next group among what has not become another one already. */
        boolean findGroup() {
            boolean isFound = groups.nextGroup();
            for (int row = next; row < old && !isFound; row++) {
                if (codebase.isStart(row)) {
                    next = codebase.endFrom(row);
                    isFound = codebase.isToChange(row, next) && findFirst(row);
                }
            }
            return isFound;
        }

        private boolean findFirst(int start) {
            groups.clear();
            for (int row = start; row < next; row++) {
                if (codebase.isMarked(row) && codebase.became(row) == NONE) {
                    groups.add(row);
                }
            }
            groups.connect();
            return groups.nextGroup();
        }

        /** Replaces the group that was found, if it is to be; it stays, too, if there is no room. */
        void carryGroup() {
            int size = Math.min(groups.size(), originals.length);
            boolean isReplaced = false;
            for (int i = 0; i < size; i++) {
                originals[i] = groups.member(i);
                isReplaced = isReplaced || codebase.usesChanged(originals[i]);
            }
            if (!isReplaced) {
                return;
            }
            for (int i = 0; i < size; i++) {
                codebase.copyReplaced(originals[i], FIRST_COPY + i, originals, size);
            }
            boolean haveTypes = codebase.canCarry(isForPatch ? carried : 0);
            for (int i = 0; i < size && haveTypes; i++) {
                int copy = FIRST_COPY + i;
                haveTypes = codebase.isData(copy) || checker.hasItsType(copy);
                groups.setMember(i, copy);
            }
            if (!haveTypes) {
                leaveToDo(size);
                return;
            }
            groups.hashMembers();
            codebase.settle(groups);
            for (int i = 0; i < size; i++) {
                takeCopy(originals[i], codebase.settledFor(FIRST_COPY + i));
            }
        }

        private void leaveToDo(int size) {
            for (int i = 0; i < size; i++) {
                for (int name = 0; name < NAMES; name++) {
                    isTodo[name] = isTodo[name] || branches.at(name) == originals[i];
                }
            }
        }

        private void takeCopy(int original, int made) {
            if (made != NONE && made != original) {
                codebase.setCarried(original, made);
                carried++;
            }
        }
    }

    /**
     * Works terms out, with frames of its own in place of a recursion. A value is a cell, 0 if there is
     * none; a scope is where what is bound stands, with the scope outside of it behind it.
     */
    private static final class Worker {
        private final Nodes nodes;
        private final Codebase codebase;
        private final int[] frameNodes = new int[MOST_FRAMES];
        private final int[] frameSteps = new int[MOST_FRAMES];
        private final int[] frameDefinitions = new int[MOST_FRAMES];
        private final int[] frameScopes = new int[MOST_FRAMES];
        private final long[] frameHeld = new long[MOST_FRAMES];
        private final Row cells;
        private int used;
        private long answer;
        private int frames;
        private int begun;
        private int underWay;
        private boolean isStopped;

        Worker(Nodes nodes, Codebase codebase, Row cells) {
            this.nodes = nodes;
            this.codebase = codebase;
            this.cells = cells;
        }

        /** Answers the value, which holds until the next call, or 0 if it was stopped. */
        long workOut(int term) {
            used = FIRST_CELL;
            answer = 0;
            frames = 0;
            begun = 0;
            underWay = 0;
            isStopped = false;
            if (isBegun()) {
                push(codebase.termNode(term), term, 0);
            }
            for (int i = 0; i < MOST_STEPS && frames > 0 && !isStopped; i++) {
                advance(frames - 1);
            }
            return isStopped || frames > 0 ? 0 : answer;
        }

        private boolean isBegun() {
            if (begun >= MOST_BEGUN || underWay >= MOST_UNDER_WAY) {
                isStopped = true;
                return false;
            }
            begun++;
            underWay++;
            return true;
        }

        private void push(int node, int in, int scope) {
            if (frames >= MOST_FRAMES) {
                isStopped = true;
                return;
            }
            frameNodes[frames] = node;
            frameSteps[frames] = 0;
            frameDefinitions[frames] = in;
            frameScopes[frames] = scope;
            frameHeld[frames] = 0;
            frames++;
        }

        /** Works a part of the term out, in the scope of the whole. */
        private void pushPart(int top, int node) {
            frameSteps[top]++;
            push(node, frameDefinitions[top], frameScopes[top]);
        }

        /** What is worked out last in a frame takes its place. */
        private void turnInto(int top, int node, int scope) {
            frameNodes[top] = node;
            frameSteps[top] = 0;
            frameScopes[top] = scope;
        }

        private void finish(long value) {
            answer = value;
            isStopped = isStopped || value == 0;
            frames--;
        }

        /** Answers where a number stands then, 0 if there is no place for it. */
        private int keep(long number) {
            if (!cells.put(used, number)) {
                isStopped = true;
                return 0;
            }
            used++;
            return used - 1;
        }

        private int bind(long value, int outer) {
            int scope = keep(value);
            keep(outer);
            return scope;
        }

        private void advance(int top) {
            if (top < 0 || top >= MOST_FRAMES) {
                isStopped = true;
                return;
            }
            int node = frameNodes[top];
            switch (nodes.kindAt(node)) {
                case 'i':
                    finish(cell('i', 0, nodes.aAt(node)));
                    break;
                case 'v':
                    finish(lookUp(frameScopes[top], nodes.aAt(node)));
                    break;
                case 'f':
                    finish(cell('f', frameScopes[top], frameDefinitions[top] << NODE_BITS | node));
                    break;
                case 'a':
                    advanceApplication(top, node);
                    break;
                case 'o':
                    advanceOperator(top, node);
                    break;
                case '?':
                    advanceChoice(top, node);
                    break;
                case 'l':
                    advanceBinding(top, node);
                    break;
                case 'r':
                    advanceName(top, node);
                    break;
                case 'm':
                    advanceConstructor(top, node);
                    break;
                case 'c':
                    advanceBranches(top, node);
                    break;
                default:
                    isStopped = true;
            }
        }

        private long lookUp(int scope, int variable) {
            int at = scope;
            for (int i = 0; i < variable && at != 0; i++) {
                at = (int) cells.at(at + 1);
            }
            return at == 0 ? 0 : cells.at(at);
        }

        private void advanceApplication(int top, int node) {
            switch (frameSteps[top]) {
                case 0:
                    pushPart(top, nodes.aAt(node));
                    break;
                case 1:
                    frameHeld[top] = answer;
                    pushPart(top, nodes.bAt(node));
                    break;
                case 2:
                    long function = frameHeld[top];
                    if (signOf(function) != 'f') {
                        isStopped = true;
                    } else if (isBegun()) {
                        frameSteps[top]++;
                        int body = nodes.bAt(numberOf(function) & (1 << NODE_BITS) - 1);
                        push(body, numberOf(function) >> NODE_BITS, bind(answer, refOf(function)));
                    }
                    break;
                default:
                    underWay--;
                    finish(answer);
            }
        }

        private void advanceOperator(int top, int node) {
            switch (frameSteps[top]) {
                case 0:
                    pushPart(top, nodes.aAt(node));
                    break;
                case 1:
                    frameHeld[top] = answer;
                    pushPart(top, nodes.bAt(node));
                    break;
                default:
                    int left = numberOf(frameHeld[top]);
                    finish(cell('i', 0, operate(nodes.cAt(node), left, numberOf(answer))));
            }
        }

        private static int operate(int operator, int left, int right) {
            switch (operator) {
                case 0:
                    return left + right;
                case 1:
                    return left - right;
                case 2:
                    return left * right;
                case 3:
                    return left < right ? 1 : 0;
                default:
                    return left == right ? 1 : 0;
            }
        }

        private void advanceChoice(int top, int node) {
            if (frameSteps[top] == 0) {
                pushPart(top, nodes.aAt(node));
            } else {
                turnInto(top, numberOf(answer) != 0 ? nodes.bAt(node) : nodes.cAt(node), frameScopes[top]);
            }
        }

        private void advanceBinding(int top, int node) {
            if (frameSteps[top] == 0) {
                pushPart(top, nodes.aAt(node));
            } else {
                turnInto(top, nodes.bAt(node), bind(answer, frameScopes[top]));
            }
        }

        private void advanceName(int top, int node) {
            if (frameSteps[top] != 0) {
                underWay--;
                finish(answer);
                return;
            }
            int named = codebase.termAt(frameDefinitions[top], nodes.aAt(node));
            if (named == NONE) {
                isStopped = true;
            } else if (isBegun()) {
                frameSteps[top]++;
                push(codebase.termNode(named), named, 0);
            }
        }

        private void advanceConstructor(int top, int node) {
            int argument = nodes.cAt(node);
            if (argument < 0) {
                finish(cell('c', 0, nodes.bAt(node)));
            } else if (frameSteps[top] == 0) {
                pushPart(top, argument);
            } else {
                finish(cell('c', keep(answer), nodes.bAt(node)));
            }
        }

        private void advanceBranches(int top, int node) {
            if (frameSteps[top] == 0) {
                pushPart(top, nodes.bAt(node));
                return;
            }
            int branch = nodes.cAt(node);
            for (int i = 0; i < numberOf(answer) && i < MOST_CONSTRUCTORS; i++) {
                branch = nodes.bAt(branch);
            }
            int held = refOf(answer);
            int scope = held == 0 ? frameScopes[top] : bind(cells.at(held), frameScopes[top]);
            turnInto(top, nodes.aAt(branch), scope);
        }
    }

    /** Writes the line. */
    private static final class Writer {
        private final Nodes nodes;
        private final Codebase codebase;
        private final Branches branches;
        private final Row cells;
        private final char[] line = new char[LINE];
        private int length;

        Writer(Nodes nodes, Codebase codebase, Branches branches, Row cells) {
            this.nodes = nodes;
            this.codebase = codebase;
            this.branches = branches;
            this.cells = cells;
        }

        void clear() {
            length = 0;
        }

        int lineLength() {
            return length;
        }

        char signAt(int index) {
            return index >= 0 && index < length ? line[index] : NOTHING;
        }

        private void put(char sign) {
            if (length < LINE) {
                line[length] = sign;
                length++;
            }
        }

        private void put(String text) {
            for (int i = 0; i < text.length(); i++) {
                put(text.charAt(i));
            }
        }

        private void number(int number) {
            long left = Math.abs((long) number);
            if (number < 0) {
                put('-');
            }
            boolean isBegun = false;
            for (long unit = 1_000_000_000L; unit > 0; unit /= 10) {
                int digit = (int) (left / unit);
                left -= digit * unit;
                isBegun = isBegun || digit != 0 || unit == 1;
                if (isBegun) {
                    put((char) ('0' + digit));
                }
            }
        }

        private void variable(int binders) {
            put('x');
            number(binders);
        }

        private void constructor(int number) {
            put('c');
            number(number);
        }

        /** Writes a value, whose constructors are a chain; nothing is written for 0. */
        void value(long value) {
            int open = 0;
            long at = value;
            for (int i = 0; i < LINE && signOf(at) == 'c'; i++) {
                constructor(numberOf(at));
                at = cells.at(refOf(at));
                if (at != 0) {
                    put('(');
                    open++;
                }
            }
            if (signOf(at) == 'i') {
                number(numberOf(at));
            }
            if (signOf(at) == 'f') {
                put("fn");
            }
            for (int i = 0; i < open; i++) {
                put(')');
            }
        }

        void toldType(int term) {
            type(codebase.typeNode(term), term, 0);
        }

        void body(int definition) {
            int at = codebase.termNode(definition);
            if (!codebase.isData(definition)) {
                term(at, definition, 0, 0);
                return;
            }
            for (int i = 0; i < MOST_CONSTRUCTORS && at >= 0; i++) {
                put(i == 0 ? "" : " | ");
                constructor(i);
                if (nodes.aAt(at) >= 0) {
                    put(' ');
                    type(nodes.aAt(at), definition, 0);
                }
                at = nodes.bAt(at);
            }
        }

        private void named(int definition) {
            if (definition == NONE) {
                return;
            }
            int name = branches.lowestNameOf(definition);
            if (name != NONE) {
                put((char) ('a' + name));
                return;
            }
            put('#');
            int digits = digitsNeeded(definition);
            for (int i = 0; i < digits; i++) {
                int digit = digitOf(codebase.hashAt(definition), i);
                put((char) (digit < 10 ? '0' + digit : 'a' + digit - 10));
            }
        }

        private int digitsNeeded(int definition) {
            long hash = codebase.hashAt(definition);
            int digits = 1;
            for (int other = codebase.first(); other < codebase.behind(); other++) {
                if (other != definition) {
                    digits = Math.max(digits, digitsApart(codebase.hashAt(other), hash));
                }
            }
            return digits;
        }

        private static int digitsApart(long hash, long other) {
            int digits = 1;
            while (digits < HASH_DIGITS && digitOf(hash, digits - 1) == digitOf(other, digits - 1)) {
                digits++;
            }
            return digits;
        }

        private static int digitOf(long hash, int index) {
            return (int) (hash >>> 60 - 4 * index & 15);
        }

        private void type(int node, int in, int depth) {
            if (depth > DEEPEST) {
                return;
            }
            switch (nodes.kindAt(node)) {
                case '>':
                    put('(');
                    type(nodes.aAt(node), in, depth + 1);
                    put(" -> ");
                    type(nodes.bAt(node), in, depth + 1);
                    put(')');
                    break;
                case 'd':
                    int data = codebase.dataAt(in, nodes.aAt(node));
                    if (data == in) {
                        put('.');
                    } else {
                        named(data);
                    }
                    break;
                default:
                    put("int");
            }
        }

        private void term(int node, int in, int binders, int depth) {
            if (depth > DEEPEST) {
                return;
            }
            int a = nodes.aAt(node);
            switch (nodes.kindAt(node)) {
                case 'i':
                    number(a);
                    break;
                case 'v':
                    variable(binders - 1 - a);
                    break;
                case 'f':
                    put('(');
                    variable(binders);
                    put(": ");
                    type(a, in, 0);
                    put(" => ");
                    term(nodes.bAt(node), in, binders + 1, depth + 1);
                    put(')');
                    break;
                case 'a':
                    term(a, in, binders, depth + 1);
                    put('(');
                    term(nodes.bAt(node), in, binders, depth + 1);
                    put(')');
                    break;
                case 'r':
                    named(codebase.termAt(in, a));
                    break;
                case 'm':
                    construction(node, in, binders, depth + 1);
                    break;
                case 'c':
                    selection(node, in, binders, depth + 1);
                    break;
                default:
                    inBrackets(node, in, binders, depth + 1);
            }
        }

        private void inBrackets(int node, int in, int binders, int depth) {
            boolean isBinding = nodes.kindAt(node) == 'l';
            put('(');
            if (isBinding) {
                variable(binders);
                put(" = ");
            }
            term(nodes.aAt(node), in, binders, depth);
            if (isBinding) {
                put("; ");
            } else {
                put(' ');
                put(operatorOf(node));
                put(' ');
            }
            term(nodes.bAt(node), in, isBinding ? binders + 1 : binders, depth);
            if (nodes.kindAt(node) == '?') {
                put(" : ");
                term(nodes.cAt(node), in, binders, depth);
            }
            put(')');
        }

        private char operatorOf(int node) {
            if (nodes.kindAt(node) == '?') {
                return '?';
            }
            switch (nodes.cAt(node)) {
                case 0:
                    return '+';
                case 1:
                    return '-';
                case 2:
                    return '*';
                case 3:
                    return '<';
                default:
                    return '=';
            }
        }

        private void construction(int node, int in, int binders, int depth) {
            named(codebase.dataAt(in, nodes.aAt(node)));
            put('.');
            constructor(nodes.bAt(node));
            if (nodes.cAt(node) >= 0) {
                put('(');
                term(nodes.cAt(node), in, binders, depth);
                put(')');
            }
        }

        private void selection(int node, int in, int binders, int depth) {
            put('(');
            term(nodes.bAt(node), in, binders, depth);
            int data = codebase.dataAt(in, nodes.aAt(node));
            int constructor = codebase.isData(data) ? codebase.termNode(data) : NONE;
            int branch = nodes.cAt(node);
            for (int i = 0; i < MOST_CONSTRUCTORS && branch >= 0; i++) {
                put(" | ");
                constructor(i);
                int inside = binders;
                if (nodes.aAt(constructor) >= 0) {
                    put(' ');
                    variable(binders);
                    inside++;
                }
                put(" => ");
                term(nodes.aAt(branch), in, inside, depth);
                constructor = nodes.bAt(constructor);
                branch = nodes.bAt(branch);
            }
            put(')');
        }
    }
}
