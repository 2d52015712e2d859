/** Changes are carried along through as many definitions as there are: some ten thousand, and some hundred thousand. */
public final class LongChainsTest extends Check {
    private static final int ROUNDS = 100;

    public static void main(String[] args) {
        LongChainsTest test = new LongChainsTest();
        test.updates();
        test.collects();
        test.levels(3, 45);
        end();
    }

    private int sum(int name) {
        return op(ref(name), '+', num(0));
    }

    /** A chain of ROUNDS * ROUNDS and some definitions, of which a needs all, and all need e. */
    private void chain() {
        x.stage(E, type(), num(0));
        x.stage(C, type(), sum(E));
        x.stage(B, type(), sum(C));
        x.define();
        x.alias(B, A);
        x.stage(A, type(), op(ref(B), '+', num(1)));
        x.update();
        for (int i = 0; i < ROUNDS; i++) {
            due("names", 2, x.apply(0));
        }
        x.alias(C, D);
        x.stage(C, type(), op(ref(A), '+', num(1)));
        due("carried", ROUNDS + 4, x.update());
        for (int i = 0; i < ROUNDS; i++) {
            due("names", 4, x.apply(1));
        }
    }

    private void updates() {
        begin("updates of a long chain");
        chain();
        int all = x.needed(A);
        int made = x.definitions();
        // the first one leaves behind what patches made
        for (int i = 1; i <= 17; i++) {
            x.stage(E, type(), num(i));
            due("carried " + i, 10609, x.update());
            due("kept " + i, 10610, x.patchSize(i + 1));
            due("a needs e", true, x.needs(A, E));
            due("as many", all, x.needed(A));
        }
        due("made", made + 17 * 10610, x.definitions());
        due("to do", 0, x.todo());
        due("sound", true, x.isSound());
    }

    /** What is dropped and made again is as it was. */
    private void collects() {
        begin("collecting a long chain");
        chain();
        int made = x.definitions();
        int needed = x.needed(A);
        long hash = x.hash(A);
        for (int name = A; name <= E; name++) {
            x.unname(name);
        }
        int dropped = x.collect();
        due("nearly all are dropped", true, dropped > ROUNDS * (ROUNDS - 1));
        due("left", made - dropped, x.definitions());
        due("sound", true, x.isSound());
        x.stage(E, type(), num(0));
        x.stage(C, type(), sum(E));
        x.stage(B, type(), sum(C));
        due("the patches keep these", 0, x.define());
        x.alias(B, A);
        for (int i = 0; i < ROUNDS; i++) {
            x.apply(0);
        }
        x.alias(C, D);
        for (int i = 0; i < ROUNDS; i++) {
            x.apply(1);
        }
        due("the same one", hash, x.hash(A));
        due("needs as many", needed, x.needed(A));
        due("as many", made, x.definitions());
        due("sound", true, x.isSound());
        for (int name = A; name <= E; name++) {
            x.unname(name);
        }
        due("dropped again", dropped, x.collect());
        for (int name = 5; name < 25; name++) {
            defineInt(name, op(num(name), '*', num(name)));
        }
        due("others in their place", made - dropped + 20, x.definitions());
        due("sound", true, x.isSound());
        due("one of them", "(24 * 24)", written(24));
        due("one of them", "49", value(7));
    }

    /** Each patch makes the chain so much longer that some hundred thousand are carried along. */
    private void levels(int levels, int rounds) {
        begin("levels of chains");
        raise(levels, rounds);
        due("a needs", true, x.needed(A) > Math.pow(rounds, levels));
        due("a needs the first one", true, x.needs(A, 10 + levels));
        x.stage(10 + levels, type(), num(6));
        int needed = x.needed(A);
        due("all are carried", needed, x.update());
        due("to do", 0, x.todo());
        due("a needs the new one", true, x.needs(A, 10 + levels));
        due("sound", true, x.isSound());
        due("as many", needed, x.needed(A));
    }

    private void raise(int levels, int rounds) {
        for (int level = 0; level < levels; level++) {
            x.stage(10 + level, type(), sum(11 + level));
        }
        x.stage(10 + levels, type(), num(5));
        x.define();
        x.alias(10, A);
        for (int level = 0; level < levels; level++) {
            x.alias(10 + level, 25 - level);
            x.stage(10 + level, type(), op(ref(A), '+', num(7)));
            x.update();
            x.alias(10 + level, A);
            for (int i = 0; i < rounds; i++) {
                x.apply(level);
            }
        }
    }
}
