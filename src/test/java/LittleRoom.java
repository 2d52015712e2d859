/**
 * Runs can be told in which definitions grow without an end. They stay in their room, nothing that is there
 * is lost, and what is dropped gives its room back. This is for a program with 400 parts, which Narrow writes.
 */
public final class LittleRoom extends Check {
    private static final int LEVELS = 4;
    private static final int ROUNDS = 22;
    private static final int FULL = 9;
    private static final int OTHER = 16;

    /** How many further names there are in what is carried along. */
    private int others;
    private HashedCommons told;
    private final int[] terms = new int[LEVELS + 1];
    private int anInt;
    private int change;

    public static void main(String[] args) {
        LittleRoom test = new LittleRoom();
        test.grows();
        test.givesBack();
        test.givesBackAgain("room again and again");
        test.others = 2;
        test.givesBackAgain("room again and again, with three names in each");
        test.others = 0;
        test.givesToOthers();
        test.keepsPatches();
        test.keepsForMachines();
        end();
    }

    private int sum(int name, int number) {
        int sum = op(ref(name), '+', num(number));
        return others == 0 ? sum : op(op(sum, '+', ref(OTHER)), '+', ref(OTHER + 1));
    }

    /** The nodes are told once for each object. */
    private void tell() {
        if (told == x) {
            return;
        }
        told = x;
        anInt = type();
        for (int level = 0; level < LEVELS; level++) {
            terms[level] = sum(11 + level, 0);
        }
        terms[LEVELS] = num(5);
        change = sum(A, 7);
    }

    /** Each patch makes the chain of a as many times as long, the last one as often as it is applied. */
    private void raise(int last) {
        raise(ROUNDS, last);
    }

    private void raise(int rounds, int last) {
        tell();
        for (int level = 0; level <= LEVELS; level++) {
            x.stage(10 + level, anInt, terms[level]);
        }
        for (int i = 0; i < others; i++) {
            x.stage(OTHER + i, anInt, terms[LEVELS]);
        }
        x.define();
        x.alias(10, A);
        for (int level = 0; level < LEVELS; level++) {
            x.alias(10 + level, 25 - level);
            x.stage(10 + level, anInt, change);
            x.update();
            x.alias(10 + level, A);
            apply(x.patches() - 1, level == LEVELS - 1 ? last : rounds);
        }
    }

    private void apply(int patch, int times) {
        for (int i = 0; i < times; i++) {
            x.apply(patch);
        }
    }

    private void unnameAll() {
        for (int name = 0; name < 26; name++) {
            if (x.kindOf(name) != '-') {
                x.unname(name);
            }
        }
    }

    private void grows() {
        begin("no room");
        raise(FULL);
        int full = x.definitions();
        x.apply(3);
        int made = x.definitions();
        due("some more", true, made > full && made < full + x.patchSize(3));
        int needed = x.needed(A);
        due("many", true, needed > 100_000);
        x.apply(3);
        due("no more", made, x.definitions());
        due("a stays", needed, x.needed(A));
        due("a needs the first one", true, x.needs(A, 10 + LEVELS));
        due("sound", true, x.isSound());
        defineInt(1, num(8));
        defineInt(2, op(ref(1), '+', num(1)));
        due("two more", made + 2, x.definitions());
        due("nine", "9", value(2));
        x.stage(1, type(), num(10));
        due("nothing is carried", 0, x.update());
        due("one is to do", 1, x.todo());
        due("it is nine", 2, x.todoAt(0));
        due("the patch keeps what was staged", 1, x.patchSize(4));
        due("nine", "9", value(2));
        due("ten", "10", value(1));
        due("sound", true, x.isSound());
    }

    /** After the run of grows() all has its room. */
    private void givesBack() {
        x.alias(25, 3);
        unnameAll();
        due("much is dropped", true, x.collect() > 100_000);
        int left = x.definitions();
        due("few are left", true, left >= x.patchSize(3) && left < 50_000);
        due("sound", true, x.isSound());
        defineInt(1, num(8));
        defineInt(2, op(ref(1), '+', num(1)));
        x.stage(1, type(), num(11));
        due("carried", 1, x.update());
        due("none is to do", 0, x.todo());
        due("twelve", "12", value(2));
    }

    /** What is made and dropped and made again has the room that it had. */
    private void givesBackAgain(String what) {
        begin(what);
        raise(FULL);
        int made = x.definitions();
        int needed = x.needed(A);
        long hash = x.hash(A);
        int dropped = 0;
        for (int i = 1; i <= 4; i++) {
            unnameAll();
            int now = x.collect();
            due("dropped " + i, i == 1 ? now : dropped, now);
            dropped = now;
            due("left " + i, made - dropped, x.definitions());
            raise(FULL);
            due("made " + i, made, x.definitions());
            due("needed " + i, needed, x.needed(A));
            due("hash " + i, hash, x.hash(A));
            due("size " + i, x.patchSize(3), x.patchSize(4 * i + 3));
        }
        due("sound", true, x.isSound());
        due("many", true, dropped > 100_000);
    }

    /** What rows of one kind give back others can take: definitions with three names have a row more. */
    private void givesToOthers() {
        begin("room for one name");
        int one = fill(0);
        begin("room for three names");
        int three = fill(2);
        due("less", true, three < one * 5 / 6);
        due("one name after three", true, fill(0) > one - 8000);
        due("three names after one", true, fill(2) > three - 4000);
        due("sound", true, x.isSound());
        others = 0;
    }

    /** Drops what is there, and makes as many as there is room for; answers how many. */
    private int fill(int others) {
        this.others = others;
        told = null;
        unnameAll();
        x.collect();
        raise(14, 55);
        int made = x.definitions();
        x.apply(x.patches() - 1);
        due("no more with " + others, made, x.definitions());
        return made;
    }

    /** A patch takes room for those pairs alone that are in no other one. */
    private void keepsPatches() {
        begin("room for patches");
        raise(FULL);
        int made = x.definitions();
        int size = x.patchSize(3);
        due("many", true, size > 10_000);
        for (int i = 4; i < 20; i += 2) {
            due("conflicts", i == 4 ? 0 : 1, x.mergePatches(i - 1, 3));
            due("merged " + i, size, x.patchSize(i));
            due("composed", i + 1, x.compose(3, 3));
            due("composed " + i, size, x.patchSize(i + 1));
        }
        unnameAll();
        x.collect();
        due("sizes", size, x.patchSize(4));
        due("fewer", true, x.definitions() < made);
        due("sound", true, x.isSound());
    }

    /** Of what is dropped, machines keep the hashes, and these alone. */
    private void keepsForMachines() {
        begin("room for what machines have");
        raise(FULL - 3);
        int needed = x.needed(A);
        long hash = x.hash(A);
        x.job(1, A);
        x.goOn(1);
        due("all went there", needed + 1L, x.traffic());
        unnameAll();
        int left = x.definitions() - x.collect();
        due("left", left, x.definitions());
        raise(FULL - 3);
        due("the same one", hash, x.hash(A));
        due("lacks none", 0, x.lacking(1, A));
        due("another lacks all", needed + 1, x.lacking(2, A));
        due("sound", true, x.isSound());
        unnameAll();
        x.collect();
        x.job(1, defined(1, num(3)));
        x.goOn(1);
        due("one more", needed + 2L, x.traffic());
        due("no jobs", 0, x.down(1));
        x.up(1);
        raise(FULL - 3);
        due("lacks all", needed + 1, x.lacking(1, A));
    }

    private int defined(int name, int term) {
        defineInt(name, term);
        return name;
    }
}
