/** Promises 21 to 25: patches. */
public final class PatchesTest extends Check {
    public static void main(String[] args) {
        PatchesTest test = new PatchesTest();
        test.promises21And22();
        test.promise23();
        test.promise23Carrying();
        test.promise23Chains();
        test.promise23ToDo();
        test.promise24();
        test.promise25();
        test.patchesAfterCollecting();
        end();
    }

    private void promises21And22() {
        begin("promises 21 and 22");
        due("none", 0, x.patches());
        missing("none", () -> x.patchSize(0));
        defineFunction(A, adder(1));
        defineFunction(B, caller(A));
        updateFunction(A, adder(1));
        due("one", 1, x.patches());
        due("without a change", 0, x.patchSize(0));
        updateFunction(A, adder(2));
        due("two", 2, x.patches());
        due("with what was carried along", 2, x.patchSize(1));
        missing("over", () -> x.patchSize(2));
        missing("under", () -> x.patchSize(-1));
        x.stage(A, type(), num(1));
        x.update();
        due("only what changed", 1, x.patchSize(2));
    }

    private void promise23() {
        begin("promise 23");
        missing("none", () -> x.apply(0));
        defineFunction(A, adder(1));
        defineFunction(B, caller(A));
        defineFunction(C, caller(B));
        x.alias(A, D);
        int old = x.branch();
        updateFunction(A, adder(2));
        long b = x.hash(B);
        long c = x.hash(C);
        missing("over", () -> x.apply(1));
        missing("under", () -> x.apply(-1));
        due("nothing here", 0, x.apply(0));
        x.goTo(old);
        due("four names", 4, x.apply(0));
        due("a", x.hash(A), x.hash(D));
        due("b", b, x.hash(B));
        due("c", c, x.hash(C));
        due("no patch is made", 1, x.patches());
        due("once", 0, x.apply(0));
        // what stands in the patch counts, also if the name means another one by now
        x.goTo(x.branch());
        x.unname(A);
        defineFunction(A, adder(1));
        due("only the one", 1, x.apply(0));
    }

    private void promise23Carrying() {
        begin("promise 23, carrying along");
        defineFunction(A, adder(1));
        int other = x.branch();
        updateFunction(A, adder(2));
        x.goTo(other);
        long old = x.hash(A);
        defineFunction(B, caller(A));
        defineFunction(C, caller(B));
        x.unname(A);
        int before = x.definitions();
        due("b and c, also with no name of a", 2, x.apply(0));
        due("two new ones", before + 2, x.definitions());
        due("c needs three", 2, x.needed(C));
        x.goTo(0);
        long fresh = x.hash(A);
        x.goTo(other);
        due("b", row(31, 2, 1, 1, 13, 1, 14, 18, fresh, 12, 0), x.hash(B));
        due("still one patch", 1, x.patches());
        defineFunction(D, adder(1));
        due("the old one again", old, x.hash(D));
        due("a name takes it", 1, x.apply(0));
        due("d", fresh, x.hash(D));
        begin("promise 23, given ones are carried along");
        defineFunction(A, adder(1));
        int here = x.branch();
        defineFunction(B, caller(A));
        // a becomes what needs b, which needs a
        due("both", 2, updateFunction(A, caller(B)));
        long a = x.hash(A);
        x.goTo(here);
        due("a", 1, x.apply(0));
        due("to the end of the chain, which needs what needs none of them", true, x.hash(A) != a);
        due("sound", true, x.isSound());
    }

    private void promise23Chains() {
        begin("promise 23, chains and rings");
        defineFunction(A, adder(1));
        defineFunction(B, adder(2));
        defineFunction(C, fn(type(), app(ref(A), app(ref(B), var(0)))));
        int other = x.branch();
        x.goTo(x.branch());
        long one = x.hash(A);
        long two = x.hash(B);
        x.unname(C);
        updateFunction(A, adder(3));
        updateFunction(A, adder(4));
        due("merged", 0, x.mergePatches(0, 1));
        long four = x.hash(A);
        x.goTo(other);
        due("a and c", 2, x.apply(2));
        due("over three to four", four, x.hash(A));
        due("c", row(31, 2, 1, 1, 13, 1, 14, 18, four, 14, 18, two, 12, 0), x.hash(C));
        begin("promise 23, rings");
        defineFunction(A, adder(1));
        defineFunction(B, adder(2));
        defineFunction(C, fn(type(), app(ref(A), app(ref(B), var(0)))));
        other = x.branch();
        x.unname(C);
        x.stage(A, intToInt(), adder(2));
        x.stage(B, intToInt(), adder(1));
        x.update();
        x.goTo(other);
        due("both swap, and c", 3, x.apply(0));
        due("a", two, x.hash(A));
        due("b", one, x.hash(B));
        due("c, each once", row(31, 2, 1, 1, 13, 1, 14, 18, two, 14, 18, one, 12, 0), x.hash(C));
        due("back", 3, x.apply(0));
        due("a", one, x.hash(A));
        due("c", row(31, 2, 1, 1, 13, 1, 14, 18, one, 14, 18, two, 12, 0), x.hash(C));
        begin("promise 23, into a ring");
        defineFunction(A, adder(1));
        other = x.branch();
        updateFunction(A, adder(2));
        updateFunction(A, adder(3));
        updateFunction(A, adder(2));
        x.mergePatches(0, 1);
        x.mergePatches(3, 2);
        due("one to two, two to three, three to two", 3, x.patchSize(4));
        x.goTo(other);
        due("one", 1, x.apply(4));
        due("becomes three, ahead of two again", row(31, 2, 1, 1, 13, 1, 15, 0, 12, 0, 11, 3), x.hash(A));
        promise23LongRing();
    }

    /** 0 to 1, 1 to 2, and from 2 on in a ring of five, told in an order of its own. */
    private void promise23LongRing() {
        begin("promise 23, into a long ring");
        for (int i = 0; i < 7; i++) {
            defineInt(i, num(i));
        }
        int other = x.branch();
        int[] from = {0, 4, 6, 2, 1, 5, 3};
        int[] to = {1, 5, 2, 3, 2, 6, 4};
        int all = 0;
        for (int i = 0; i < 7; i++) {
            x.stage(from[i], type(), num(to[i]));
            x.update();
            x.unname(from[i]);
            defineInt(from[i], num(from[i]));
            if (i > 0) {
                due("no conflict", 0, x.mergePatches(all, x.patches() - 1));
                all = x.patches() - 1;
            }
        }
        due("all", 7, x.patchSize(all));
        x.goTo(other);
        due("all change", 7, x.apply(all));
        int[] due = {6, 6, 6, 2, 3, 4, 5};
        for (int i = 0; i < 7; i++) {
            due("from " + i, String.valueOf(due[i]), value(i));
        }
    }

    private void promise23ToDo() {
        begin("promise 23, to do");
        defineInt(A, num(1));
        int other = x.branch();
        x.stage(A, intToInt(), adder(1));
        x.update();
        due("nothing to do here", 0, x.todo());
        x.goTo(other);
        defineInt(B, op(ref(A), '+', num(1)));
        defineInt(C, op(ref(B), '+', num(1)));
        x.alias(B, 25);
        long b = x.hash(B);
        int before = x.definitions();
        due("only a", 1, x.apply(0));
        due("b stays", b, x.hash(B));
        due("no new ones", before, x.definitions());
        due("to do", 2, x.todo());
        due("b", B, x.todoAt(0));
        due("z", 25, x.todoAt(1));
        x.goTo(0);
        x.apply(0);
        due("by the last application", 0, x.todo());
    }

    private void promise24() {
        begin("promise 24");
        missing("none", () -> x.compose(0, 0));
        defineFunction(A, adder(1));
        defineFunction(B, adder(10));
        int other = x.branch();
        updateFunction(A, adder(2));
        updateFunction(A, adder(3));
        x.stage(B, intToInt(), adder(11));
        x.update();
        missing("first", () -> x.compose(3, 0));
        missing("second", () -> x.compose(0, 3));
        missing("under", () -> x.compose(-1, 0));
        due("a patch", 3, x.compose(0, 1));
        due("one and two", 2, x.patchSize(3));
        x.goTo(other);
        due("to three", 1, x.apply(3));
        due("a", row(31, 2, 1, 1, 13, 1, 15, 0, 12, 0, 11, 3), x.hash(A));
        due("the other way", 4, x.compose(1, 0));
        due("two and one", 2, x.patchSize(4));
        x.goTo(x.branch());
        x.unname(A);
        defineFunction(A, adder(1));
        due("one becomes two, and that three in turn", 1, x.apply(4));
        due("a", row(31, 2, 1, 1, 13, 1, 15, 0, 12, 0, 11, 3), x.hash(A));
        due("apart", 5, x.compose(0, 2));
        due("both", 2, x.patchSize(5));
        begin("promise 24, itself");
        defineFunction(A, adder(1));
        updateFunction(A, adder(2));
        updateFunction(A, adder(1));
        due("there and back", 2, x.compose(0, 1));
        due("one becomes itself, two becomes one", 2, x.patchSize(2));
        due("one stays", 0, x.apply(2));
        updateFunction(A, adder(2));
        due("two becomes one", 1, x.apply(2));
        due("itself is kept, unlike two", 1, x.mergePatches(2, 0));
        updateFunction(A, adder(1));
        due("and still itself", 0, x.apply(4));
        due("twice", 6, x.compose(0, 0));
        due("one", 1, x.patchSize(6));
        promise24Others();
        begin("promise 24, 20 patches");
        defineFunction(A, adder(1));
        for (int i = 0; i < 20; i++) {
            updateFunction(A, adder(i % 2));
        }
        missing("first what is missing", () -> x.compose(0, 20));
        refused("20", () -> x.compose(0, 1));
        missing("first what is missing", () -> x.mergePatches(20, 0));
        refused("20", () -> x.mergePatches(0, 1));
    }

    private void promise24Others() {
        begin("promise 24, the patches that are composed stay as they are");
        defineFunction(A, adder(1));
        defineFunction(B, adder(10));
        int other = x.branch();
        int third = x.branch();
        updateFunction(A, adder(2));
        x.goTo(other);
        x.stage(B, intToInt(), adder(1));
        x.update();
        due("composed", 2, x.compose(0, 1));
        x.goTo(third);
        due("b", 1, x.apply(1));
        due("not further by the first one", row(31, 2, 1, 1, 13, 1, 15, 0, 12, 0, 11, 1), x.hash(B));
        due("a stays", x.hash(A), x.hash(B));
        begin("promise 24, by the last patch");
        for (int i = 1; i <= 4; i++) {
            defineInt(i, num(i));
        }
        x.alias(1, 11);
        x.stage(1, type(), num(2));
        x.stage(3, type(), num(4));
        x.update();
        x.stage(2, type(), num(3));
        x.update();
        due("one and three", 2, x.patchSize(0));
        due("two", 1, x.patchSize(1));
        due("composed", 2, x.compose(0, 1));
        due("one, two and three", 3, x.patchSize(2));
        x.unname(1);
        defineInt(1, num(1));
        x.stage(1, type(), num(3));
        x.update();
        due("one becomes three, and not further", 0, x.mergePatches(2, 3));
        x.unname(1);
        defineInt(1, num(1));
        x.stage(1, type(), num(4));
        x.update();
        due("one does not become four", 1, x.mergePatches(2, 5));
    }

    private void promise25() {
        begin("promise 25");
        missing("none", () -> x.mergePatches(0, 0));
        defineFunction(A, adder(1));
        defineFunction(B, adder(10));
        int other = x.branch();
        int third = x.branch();
        updateFunction(A, adder(2));
        x.goTo(other);
        x.stage(B, intToInt(), adder(11));
        x.stage(A, intToInt(), adder(3));
        x.update();
        missing("first", () -> x.mergePatches(2, 0));
        missing("second", () -> x.mergePatches(0, 2));
        missing("under", () -> x.mergePatches(0, -1));
        due("a is a conflict", 1, x.mergePatches(0, 1));
        due("a patch", 3, x.patches());
        due("a and b", 2, x.patchSize(2));
        x.goTo(third);
        due("both", 2, x.apply(2));
        due("a of the first", row(31, 2, 1, 1, 13, 1, 15, 0, 12, 0, 11, 2), x.hash(A));
        due("b of the second", row(31, 2, 1, 1, 13, 1, 15, 0, 12, 0, 11, 11), x.hash(B));
        due("the other way, too", 1, x.mergePatches(1, 0));
        due("with itself", 0, x.mergePatches(1, 1));
        due("two", 2, x.patchSize(4));
    }

    /** What patches keep is not dropped, and is the same when others are. */
    private void patchesAfterCollecting() {
        begin("patches after collecting");
        for (int name = 0; name < 6; name++) {
            defineInt(name, num(name));
        }
        x.stage(2, type(), num(12));
        due("the first one", 0, x.update());
        x.unname(0);
        x.stage(4, type(), num(14));
        x.update();
        x.unname(1);
        due("composed", 2, x.compose(0, 1));
        due("merged", 0, x.mergePatches(1, 0));
        due("two are dropped", 2, x.collect());
        due("six are left", 6, x.definitions());
        for (int patch = 0; patch < 4; patch++) {
            x.goTo(0);
            x.unname(2);
            x.unname(4);
            defineInt(2, num(2));
            defineInt(4, num(4));
            due("names by " + patch, patch < 2 ? 1 : 2, x.apply(patch));
            due("two by " + patch, patch == 1 ? "2" : "12", value(2));
            due("four by " + patch, patch == 0 ? "4" : "14", value(4));
            due("size of " + patch, patch < 2 ? 1 : 2, x.patchSize(patch));
            due("three", "3", value(3));
            due("none is dropped", 0, x.collect());
        }
        x.unname(3);
        due("three is dropped", 1, x.collect());
        due("no conflict", 0, x.mergePatches(2, 3));
        due("the same", 2, x.patchSize(4));
        due("sound", true, x.isSound());
    }
}
