/** The example of README.md, line by line, with the answers that stand there. */
public final class ExampleTest extends Check {
    public static void main(String[] args) {
        ExampleTest test = new ExampleTest();
        test.define();
        test.updateAndApply();
        test.faultAndToDo();
        test.runJob();
        end();
    }

    private void define() {
        begin("the example of README.md");
        int type = x.node('j', 0, 0, 0);
        int five = x.node('o', x.node('i', 2, 0, 0), x.node('i', 3, 0, 0), 0);
        int tenfold = x.node('o', x.node('r', 0, 0, 0), x.node('i', 10, 0, 0), 2);
        due("stage", 1, x.stage(0, type, five));
        due("stage", 2, x.stage(1, type, tenfold));
        due("define", 2, x.define());
        due("writeTerm", 8, x.writeTerm(1));
        due("the line", "(a * 10)", line());
        due("writeValue", 2, x.writeValue(1));
        due("lineAt", '5', x.lineAt(0));
    }

    private void updateAndApply() {
        due("branch", 1, x.branch());
        due("stage", 1, x.stage(0, 0, x.node('i', 7, 0, 0)));
        due("update", 1, x.update());
        due("writeValue", 2, x.writeValue(1));
        due("the line", "70", line());
        due("goTo", 0, x.goTo(1));
        due("writeValue", 2, x.writeValue(1));
        due("the line", "50", line());
        due("apply", 2, x.apply(0));
        due("writeValue", 2, x.writeValue(1));
        due("the line", "70", line());
    }

    private void faultAndToDo() {
        int function = x.node('f', 0, x.node('v', 0, 0, 0), 0);
        due("stage", 1, x.stage(0, 0, function));
        due("fault", 't', x.fault());
        due("faultName", 0, x.faultName());
        due("stage", 1, x.stage(0, x.node('>', 0, 0, 0), function));
        due("update", 0, x.update());
        due("todo", 1, x.todo());
        due("todoAt", 1, x.todoAt(0));
    }

    private void runJob() {
        due("job", 0, x.job(2, 1));
        due("goOn", 0, x.goOn(2));
        due("traffic", 2L, x.traffic());
        due("result", 70, x.result(0));
    }
}
