/**
 * Definitions that say unlike things and have the same hash, which is kept once. The numbers in them were
 * found by trying: ints stand freely in rows, so that each hash can be reached.
 */
public final class CollisionsTest extends Check {
    public static void main(String[] args) {
        CollisionsTest test = new CollisionsTest();
        test.memberIsThere();
        test.notSoundAtFirst();
        test.memberIsCarried();
        test.memberComesFirst();
        test.droppedIsGone();
        test.droppedIsKnown();
        test.droppedForAJob();
        test.droppedGroup();
        test.droppedMember();
        test.firstOfTwoStays();
        test.updateToTheSameHash();
        test.termIsData();
        test.dataIsTerm();
        test.termOfAnotherType();
        end();
    }

    /** The member b of the group of a and b has the hash of c. */
    private void stageGroupWithMemberThere() {
        x.stage(A, type(), op(ref(B), '+', num(1475480533)));
        x.stage(B, type(), ref(A));
    }

    private int there() {
        return op(num(1631575278), '+', num(1373482030));
    }

    private void memberIsThere() {
        begin("a member is there");
        x.stage(C, type(), there());
        x.stage(D, type(), num(1631575278));
        stageGroupWithMemberThere();
        due("new ones", 3, x.define());
        due("the same hash", x.hash(C), x.hash(B));
        due("b", "(1631575278 + 1373482030)", written(B));
        due("a", "(b + 1475480533)", written(A));
        due("d lacks itself", 1, x.lacking(0, D));
        due("c lacks itself", 1, x.lacking(0, C));
        due("a lacks", 2, x.lacking(0, A));
        due("d needs nothing", 0, x.needed(D));
        due("c needs nothing", 0, x.needed(C));
        due("a needs c", 1, x.needed(A));
        due("a needs c", true, x.needs(A, C));
        due("a needs d", false, x.needs(A, D));
        due("a needs a", false, x.needs(A, A));
        due("mean", 1.0 / 3.0, x.meanNeeded());
        due("share", 1.0f, x.namedShare());
        due("a", String.valueOf(1631575278 + 1373482030 + 1475480533), value(A));
        due("a is hashed as one in no group", row(31, 1, 15, 0, 18, x.hash(C), 11, 1475480533), x.hashAnew(A));
        due("so is it sound", false, x.isSound());
        x.job(0, D);
        x.goOn(0);
        due("traffic", 1L, x.traffic());
        x.unname(A);
        due("collected", 1, x.collect());
        due("left", 2, x.definitions());
        due("sound again", true, x.isSound());
    }

    /** That it is not sound is found without a look at its hash ahead of that. */
    private void notSoundAtFirst() {
        begin("not sound at first");
        defineInt(C, there());
        due("sound", true, x.isSound());
        stageGroupWithMemberThere();
        due("new ones", 1, x.define());
        due("a has not the hash of its row any more", false, x.isSound());
        x.unname(A);
        due("dropped", 1, x.collect());
        due("sound", true, x.isSound());
        begin("no type at first");
        defineFunction(A, fn(type(), var(0)));
        x.stage(B, type(), op(num(20995957), '-', num(-1866922843)));
        due("it is there", 0, x.define());
        due("sound", true, x.isSound());
        x.stage(D, type(), num(20995957));
        x.define();
        due("sound", true, x.isSound());
        begin("a type that is lost");
        x.stage(A, intToInt(), fn(type(), var(0)));
        x.stage(B, type(), op(num(20995957), '-', num(-1866922843)));
        x.stage(C, type(), op(ref(B), '+', num(1)));
        due("a or b, and c", 2, x.define());
        due("c has not its type", false, x.isSound());
        x.unname(C);
        x.collect();
        due("sound", true, x.isSound());
    }

    private void memberIsCarried() {
        begin("a member is there, and changes");
        x.stage(C, type(), there());
        x.stage(D, type(), num(5));
        stageGroupWithMemberThere();
        x.define();
        x.stage(D, type(), num(6));
        due("nothing needs d", 0, x.update());
        long old = x.hash(A);
        x.unname(B);
        x.stage(C, type(), num(7));
        due("a needs c", 1, x.update());
        due("a changes", true, old != x.hash(A));
        due("a is in no group", row(31, 1, 15, 0, 18, x.hash(C), 11, 1475480533), x.hash(A));
        due("a", "(c + 1475480533)", written(A));
        due("to do", 0, x.todo());
        due("kept", 2, x.patchSize(1));
        x.stage(C, intToInt(), adder(1));
        due("a has no type then", 0, x.update());
        due("to do", 1, x.todo());
        due("to do", A, x.todoAt(0));
    }

    /** What is there after the group is the member, whatever it says. */
    private void memberComesFirst() {
        begin("a member comes first");
        stageGroupWithMemberThere();
        due("new ones", 2, x.define());
        due("sound", true, x.isSound());
        x.stage(C, type(), there());
        due("none is new", 0, x.define());
        due("the same hash", x.hash(B), x.hash(C));
        due("c", "a", written(C));
        due("c needs both", 2, x.needed(C));
        due("c needs itself", true, x.needs(C, B));
        due("c lacks both", 2, x.lacking(2, C));
        due("c has no end", 'l', x.work(C));
    }

    private int dropped() {
        return op(num(1169149990), '+', num(7));
    }

    private int later() {
        return op(num(1422353239), '+', num(-1152580537));
    }

    private void droppedIsGone() {
        begin("a dropped one is gone");
        defineInt(A, dropped());
        long hash = x.hash(A);
        x.unname(A);
        due("collected", 1, x.collect());
        due("nothing is left", 0, x.definitions());
        x.stage(A, type(), later());
        due("a new one", 1, x.define());
        due("the same hash", hash, x.hash(A));
        due("a", "(1422353239 + -1152580537)", written(A));
        due("a", "269772702", value(A));
        due("anew", hash, x.hashAnew(A));
        due("sound", true, x.isSound());
        x.stage(B, type(), dropped());
        due("it is there", 0, x.define());
        due("b", "(1422353239 + -1152580537)", written(B));
        x.stage(C, type(), op(ref(A), '+', num(1)));
        x.define();
        due("c", "269772703", value(C));
        x.unname(A);
        x.unname(B);
        due("c needs it", 0, x.collect());
    }

    /** Tests are run once for each hash, and machines keep what they have. */
    private void droppedIsKnown() {
        begin("a dropped one is known");
        defineInt(A, op(num(1), '-', num(1)));
        due("tested", 'n', x.test(A));
        x.job(1, A);
        x.goOn(1);
        due("traffic", 1L, x.traffic());
        x.unname(A);
        due("collected", 1, x.collect());
        defineInt(B, num(3));
        defineInt(C, op(num(1), '-', num(1)));
        due("tested", 'n', x.test(C));
        due("once", 1, x.tests());
        due("the machine has it", 0, x.lacking(1, C));
        due("another has not", 1, x.lacking(0, C));
        due("and has b not", 1, x.lacking(1, B));
        due("b is tested", 'p', x.test(B));
        due("twice", 2, x.tests());
        due("the next job", 1, x.job(0, C));
        x.goOn(0);
        due("the outcome is taken", 1L, x.traffic());
        due("the outcome", 0, x.result(1));
        x.down(1);
        due("the machine lost it", 1, x.lacking(1, C));
    }

    private void droppedForAJob() {
        begin("what a job needs stays");
        defineInt(A, dropped());
        x.job(0, A);
        x.unname(A);
        due("a job waits", 0, x.collect());
        x.stage(A, type(), later());
        due("it is there", 0, x.define());
        due("a", "(1169149990 + 7)", written(A));
        x.down(0);
        x.unname(A);
        due("a job has failed", 0, x.collect());
        x.retry(0, 1);
        x.goOn(1);
        due("collected", 1, x.collect());
        due("the int stays", 1169149997, x.result(0));
        due("the outcome stays", 'i', x.outcome(0));
    }

    /** The order of those that are left is as before, and a group is a group again when it is made again. */
    private void droppedGroup() {
        begin("a dropped group");
        x.stage(A, intToInt(), caller(B));
        x.stage(B, intToInt(), caller(A));
        x.stage(C, type(), num(1));
        x.stage(D, type(), op(ref(C), '+', num(2)));
        due("new ones", 4, x.define());
        long hash = x.hash(A);
        x.unname(A);
        x.unname(B);
        due("collected", 2, x.collect());
        due("d lacks", 2, x.lacking(0, D));
        due("c lacks", 1, x.lacking(0, C));
        x.stage(B, intToInt(), caller(A));
        x.stage(A, intToInt(), caller(B));
        due("new ones again", 2, x.define());
        due("the same row, in the order of staging", hash, x.hash(B));
        due("both", 2, x.needed(A));
        due("sound", true, x.isSound());
        x.unname(C);
        x.unname(D);
        due("collected", 2, x.collect());
        due("both", 2, x.needed(B));
        due("both lack", 2, x.lacking(1, B));
        due("sound", true, x.isSound());
    }

    /** In the ring of a, b and c the hash of b is that of x; c is ahead of a, and is dropped. */
    private void droppedMember() {
        begin("a dropped member");
        int name = 23;
        x.stage(name, type(), op(num(196103992), '-', num(-184754942)));
        x.define();
        for (int i = 5; i < 13; i++) {
            x.stage(i, type(), op(ref(i == 12 ? 5 : i + 1), '+', num(i)));
        }
        due("a full group", 8, x.define());
        x.stage(A, type(), op(ref(B), '+', num(1)));
        x.stage(B, type(), op(ref(C), '+', num(2)));
        x.stage(C, type(), op(ref(A), '+', num(3)));
        due("b is there", 2, x.define());
        due("the same hash", x.hash(name), x.hash(B));
        x.unname(C);
        due("c is dropped", 1, x.collect());
        due("a needs b", 1, x.needed(A));
        due("a full group", 8, x.needed(5));
        due("a is in no group", row(31, 1, 15, 0, 18, x.hash(B), 11, 1), x.hashAnew(A));
        x.stage(name, type(), num(4));
        due("a is carried along", 1, x.update());
        due("a", "(b + 1)", written(A));
        due("a", "5", value(A));
    }

    private void firstOfTwoStays() {
        begin("the first of two stays");
        x.stage(A, type(), dropped());
        x.stage(B, type(), later());
        due("one is new", 1, x.define());
        due("the same hash", x.hash(A), x.hash(B));
        due("b", "(1169149990 + 7)", written(B));
        due("both names", 3, x.alias(A, C));
    }

    private void updateToTheSameHash() {
        begin("an update to the same hash");
        defineInt(A, dropped());
        defineInt(B, op(ref(A), '*', num(2)));
        x.stage(A, type(), later());
        due("nothing changes", 0, x.update());
        due("nothing is kept", 0, x.patchSize(0));
        due("a", "(1169149990 + 7)", written(A));
    }

    private void termIsData() {
        begin("a term has the hash of data");
        defineData(A, type());
        x.stage(B, type(), op(num(-1035948342), '-', num(575180923)));
        due("it is there", 0, x.define());
        due("the same hash", x.hash(A), x.hash(B));
        due("data", 'd', x.kindOf(B));
        due("b", "c0 int", written(B));
        unsupported("work", () -> x.work(B));
        unsupported("test", () -> x.test(B));
        x.stage(B, type(), num(1));
        refused("of another kind", () -> x.update());
        due("sound", true, x.isSound());
    }

    private void dataIsTerm() {
        begin("data has the hash of a term");
        defineInt(B, op(num(-1035948342), '-', num(575180923)));
        x.stageData(A, false, constructors(type()));
        x.stage(C, data(A), make(A, 0, num(4)));
        due("c is new", 1, x.define());
        due("a term", 't', x.kindOf(A));
        due("a", String.valueOf(-1035948342 - 575180923), value(A));
        due("c", "a.c0(4)", written(C));
        due("c has no type any more", false, x.isSound());
        due("c needs b", true, x.needs(C, B));
    }

    private void termOfAnotherType() {
        begin("a term has the hash of one of another type");
        defineFunction(A, fn(type(), var(0)));
        x.stage(B, type(), op(num(20995957), '-', num(-1866922843)));
        x.stage(C, type(), op(ref(B), '+', num(1)));
        due("c is new", 1, x.define());
        due("the same hash", x.hash(A), x.hash(B));
        due("a function", 'f', x.work(B));
        due("c has no type any more", false, x.isSound());
        x.stage(D, type(), op(ref(B), '+', num(1)));
        due("b is a function", 't', x.fault());
        x.unstage();
        x.stage(B, intToInt(), adder(1));
        due("c stays", 0, x.update());
        due("to do", 1, x.todo());
        due("to do", C, x.todoAt(0));
    }
}
