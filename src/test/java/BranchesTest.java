/** Promises 26 to 33: branches and commits. */
public final class BranchesTest extends Check {
    public static void main(String[] args) {
        BranchesTest test = new BranchesTest();
        test.promises26And32();
        test.promises27And28();
        test.promise29();
        test.promise29Bases();
        test.promise31();
        test.promise33();
        end();
    }

    private void promises26And32() {
        begin("promises 26 and 32");
        due("none", 0, x.commits());
        for (int i = 0; i < 40; i++) {
            due("commit", i, x.commit());
            due("commits", i + 1, x.commits());
        }
        refused("40", () -> x.commit());
        x.branch();
        refused("40, merging", () -> x.merge(1));
        illegal("present ahead of 40", () -> x.merge(0));
        missing("no branch ahead of 40", () -> x.merge(2));
    }

    private void promises27And28() {
        begin("promises 27 and 28");
        defineInt(A, num(1));
        due("branch 1", 1, x.branch());
        due("still in 0", 0, x.goTo(0));
        defineInt(B, num(2));
        due("branch 2", 2, x.branch());
        due("was 0", 0, x.goTo(1));
        due("a", 't', x.kindOf(A));
        due("not b", '-', x.kindOf(B));
        x.unname(A);
        due("was 1", 1, x.goTo(2));
        due("a", 't', x.kindOf(A));
        due("b", 't', x.kindOf(B));
        due("branch 3", 3, x.branch());
        due("branch 4", 4, x.branch());
        refused("5", () -> x.branch());
        missing("over", () -> x.goTo(5));
        missing("under", () -> x.goTo(-1));
        due("last", 2, x.goTo(4));
        due("back", 4, x.goTo(1));
        due("not a", '-', x.kindOf(A));
    }

    private void promise29() {
        begin("promises 29 and 30");
        outside("none yet", () -> x.conflictAt(0));
        missing("no branch", () -> x.merge(1));
        missing("no branch", () -> x.merge(-1));
        illegal("the present one", () -> x.merge(0));
        for (int name = 0; name < 8; name++) {
            defineInt(name, num(name));
        }
        x.commit();
        x.branch();
        // 0 stays, 1 changes here, 2 there, 3 in both alike, 4 unlike, 5 goes here, 6 there, 7 goes and changes
        updateInt(1, 11);
        updateInt(3, 13);
        updateInt(4, 14);
        x.unname(5);
        x.unname(7);
        defineInt(10, num(20));
        defineInt(12, num(22));
        x.goTo(1);
        updateInt(2, 12);
        updateInt(3, 13);
        updateInt(4, 15);
        x.unname(6);
        updateInt(7, 17);
        defineInt(11, num(21));
        defineInt(12, num(23));
        due("last of 1", 1, x.commit());
        x.goTo(0);
        due("conflicts", 3, x.merge(1));
        due("4", 4, x.conflictAt(0));
        due("7", 7, x.conflictAt(1));
        due("12", 12, x.conflictAt(2));
        outside("over", () -> x.conflictAt(3));
        outside("under", () -> x.conflictAt(-1));
        due("a commit", 3, x.commits());
        int[] wanted = {0, 11, 12, 13, 14};
        for (int name = 0; name < wanted.length; name++) {
            due("name " + name, row(31, 1, 11, wanted[name]), x.hash(name));
        }
        due("5 stays away", '-', x.kindOf(5));
        due("6 goes", '-', x.kindOf(6));
        due("7 stays away", '-', x.kindOf(7));
        due("10", row(31, 1, 11, 20), x.hash(10));
        due("11", row(31, 1, 11, 21), x.hash(11));
        due("12", row(31, 1, 11, 22), x.hash(12));
        due("the commit has what is merged", (int) (x.hash(11) >>> 32), x.hashIn(2, 11));
        due("both are parents", 1, x.ancestor(2, 1));
        due("again, with the base of 1 now", 0, x.merge(1));
        due("two stays", row(31, 1, 11, 12), x.hash(2));
        outside("no conflict now", () -> x.conflictAt(0));
        due("commits", 4, x.commits());
        x.goTo(1);
        due("the other way", 0, x.merge(0));
        due("four is that of 0", row(31, 1, 11, 14), x.hash(4));
    }

    private void updateInt(int name, int n) {
        x.stage(name, type(), num(n));
        x.update();
    }

    private void promise29Bases() {
        begin("promise 29, without a base");
        defineInt(A, num(1));
        x.branch();
        updateInt(A, 2);
        defineInt(B, num(3));
        x.unname(A);
        defineInt(C, num(4));
        x.goTo(1);
        defineInt(C, num(5));
        due("c", 1, x.merge(0));
        due("it", C, x.conflictAt(0));
        due("a stays, since the base has no names", 't', x.kindOf(A));
        due("b comes", 't', x.kindOf(B));
        due("a commit without parents", 0, x.ancestor(0, 0));
        x.goTo(0);
        due("one parent", 0, x.ancestor(x.merge(1) >= 0 ? x.commits() - 1 : 0, 0));
        begin("promise 29, what was not committed");
        defineInt(A, num(1));
        x.commit();
        x.branch();
        x.goTo(1);
        updateInt(A, 2);
        x.goTo(0);
        due("none", 0, x.merge(1));
        due("what it is now there", row(31, 1, 11, 2), x.hash(A));
        due("the last ones of both are the same", 0, x.ancestor(0, 1));
    }

    private void promise31() {
        begin("promise 31");
        missing("none", () -> x.ancestor(0, 0));
        x.branch();
        x.commit();
        x.branch();
        x.commit();
        x.goTo(1);
        x.commit();
        x.goTo(2);
        x.commit();
        // 0 <- 1 in branch 0, 2 alone in branch 1, 0 <- 3 in branch 2
        due("itself", 1, x.ancestor(1, 1));
        due("parent", 0, x.ancestor(1, 0));
        due("the other way", 0, x.ancestor(0, 1));
        due("both", 0, x.ancestor(1, 3));
        unsupported("none", () -> x.ancestor(1, 2));
        unsupported("none", () -> x.ancestor(2, 3));
        missing("first", () -> x.ancestor(4, 0));
        missing("second", () -> x.ancestor(0, 4));
        missing("under", () -> x.ancestor(-1, 0));
        x.merge(1);
        due("over a merge", 2, x.ancestor(4, 2));
        due("over a merge", 3, x.ancestor(4, 3));
        x.goTo(0);
        x.merge(2);
        due("the greatest", 4, x.ancestor(5, 4));
        due("1 and 3 in 5", 3, x.ancestor(5, 3));
        x.goTo(1);
        x.commit();
        due("2", 2, x.ancestor(5, 6));
        x.goTo(0);
        x.commit();
        due("7 comes of 5", 5, x.ancestor(7, 5));
        begin("promise 31, a merge ahead of a commit without a parent");
        x.branch();
        x.branch();
        x.commit();
        x.goTo(1);
        x.commit();
        x.merge(0);
        x.goTo(2);
        x.commit();
        due("the first parent", 1, x.ancestor(2, 1));
        due("the second one", 0, x.ancestor(2, 0));
        unsupported("apart", () -> x.ancestor(3, 2));
        unsupported("apart", () -> x.ancestor(1, 3));
    }

    private void promise33() {
        begin("promise 33");
        missing("no commit, ahead of the name", () -> x.hashIn(0, 26));
        defineInt(A, num(1));
        x.commit();
        long old = x.hash(A);
        updateInt(A, 2);
        x.commit();
        x.unname(A);
        x.commit();
        due("old", (int) (old >> 32), x.hashIn(0, A));
        due("new", (int) (row(31, 1, 11, 2) >> 32), x.hashIn(1, A));
        missing("none in it", () -> x.hashIn(2, A));
        missing("none in it", () -> x.hashIn(0, B));
        illegal("name", () -> x.hashIn(0, 26));
        illegal("name", () -> x.hashIn(0, -1));
        missing("over", () -> x.hashIn(3, A));
        missing("under", () -> x.hashIn(-1, A));
    }
}
