/** Promises 1 to 6: a new object, lambda, put, clear, lambdas, atom. */
public final class ProgramTest {
    private static final int[] FAR = {Integer.MIN_VALUE, -1000, Integer.MAX_VALUE, 1000};

    private final Due due = new Due("ProgramTest");

    public static void main(String[] args) {
        ProgramTest test = new ProgramTest();
        test.newObject();
        test.lambdaAnswersNumbers();
        test.lambdaRefuses();
        test.lambdaForgetsRuns();
        test.putTakesNumbersAndPrimitives();
        test.putTakesVisibleParameters();
        test.putTakesChildren();
        test.putRefusesUnknownLambdas();
        test.putStopsAtFour();
        test.putForgetsRuns();
        test.clearLeavesLambdaZero();
        test.clearForgetsRuns();
        test.atomTellsCalls();
        test.refusedCallsChangeNothing();
        test.due.end();
    }

    private void newObject() {
        ClosureFlows flows = new ClosureFlows();
        due.is("new: lambdas()", flows.lambdas(), 1);
        due.is("new: atom(0, 0)", flows.atom(0, 0), -1);
        due.is("new: put(0, 0)", new ClosureFlows().put(0, 0), true);
        checkNoRuns("new", flows);
        due.is("new: flow(0)", flows.flow(0), -1);
        flows.start();
        due.is("new: at() after start", flows.at(), 0);
        due.is("new: step(5) of an empty call", flows.step(5), 1);
        due.is("new: state() of an empty call", flows.state(), 3);
    }

    private void checkNoRuns(String when, ClosureFlows flows) {
        due.is(when + ": state()", flows.state(), 0);
        due.is(when + ": at()", flows.at(), -1);
        due.is(when + ": step(1)", flows.step(1), -1);
        due.is(when + ": result()", flows.result(), -1);
        due.is(when + ": called(0)", flows.called(0), -1);
        due.is(when + ": value(1, 0)", flows.value(1, 0), -1);
        due.is(when + ": flow(0)", flows.flow(0), -1);
        due.is(when + ": contours(0)", flows.contours(0), -1);
        due.is(when + ": constants(1, 0)", flows.constants(1, 0), -1);
        due.is(when + ": closures(1, 0)", flows.closures(1, 0), -1);
        due.is(when + ": results()", flows.results(), -1);
    }

    private ClosureFlows withRuns() {
        ClosureFlows flows = Programs.haltWithFive();
        flows.start();
        due.is("step(100)", flows.step(100), 2);
        due.is("analyse(0)", flows.analyse(0), 2);
        return flows;
    }

    private void checkRunsAreThere(String when, ClosureFlows flows) {
        due.is(when + ": lambdas()", flows.lambdas(), 2);
        due.is(when + ": state()", flows.state(), 2);
        due.is(when + ": result()", flows.result(), 5);
        due.is(when + ": at()", flows.at(), 1);
        due.is(when + ": value(1, 0)", flows.value(1, 0), 5);
        due.is(when + ": called(0)", flows.called(0), 2);
        due.is(when + ": flow(0)", flows.flow(0), 2);
        due.is(when + ": contours(1)", flows.contours(1), 1);
        due.is(when + ": constants(1, 0)", flows.constants(1, 0), 32);
        due.is(when + ": results()", flows.results(), 32);
    }

    private void lambdaAnswersNumbers() {
        ClosureFlows flows = new ClosureFlows();
        for (int number = 1; number <= 7; number++) {
            due.is("lambda(" + (number - 1) + ", ..)", flows.lambda(number - 1, number % 4), number);
            due.is("lambdas()", flows.lambdas(), number + 1);
            due.is("atom(" + number + ", 0)", flows.atom(number, 0), -1);
        }
        due.is("lambda(0, 0), the ninth", flows.lambda(0, 0), -1);
        due.is("lambda(7, 1), the ninth", flows.lambda(7, 1), -1);
        due.is("lambdas() when 8 are there", flows.lambdas(), 8);
    }

    private void lambdaRefuses() {
        ClosureFlows flows = new ClosureFlows();
        due.is("lambda(-1, 0)", flows.lambda(-1, 0), -1);
        due.is("lambda(1, 0), its own parent", flows.lambda(1, 0), -1);
        due.is("lambda(0, -1)", flows.lambda(0, -1), -1);
        due.is("lambda(0, 4)", flows.lambda(0, 4), -1);
        for (int far : FAR) {
            due.is("lambda(" + far + ", 0)", flows.lambda(far, 0), -1);
            due.is("lambda(0, " + far + ")", flows.lambda(0, far), -1);
        }
        due.is("lambdas() after refusals", flows.lambdas(), 1);
        due.is("lambda(0, 0)", flows.lambda(0, 0), 1);
        due.is("lambda(2, 0)", flows.lambda(2, 0), -1);
        due.is("lambda(0, 3)", flows.lambda(0, 3), 2);
    }

    private void lambdaForgetsRuns() {
        ClosureFlows flows = withRuns();
        due.is("lambda(1, 2)", flows.lambda(1, 2), 2);
        checkNoRuns("after lambda", flows);
    }

    private void putTakesNumbersAndPrimitives() {
        for (int atom = -20; atom <= 350; atom++) {
            boolean may = atom >= 0 && atom <= 9 || atom >= 300 && atom <= 302;
            due.is("put(0, " + atom + ")", new ClosureFlows().put(0, atom), may);
        }
        for (int far : FAR) {
            due.is("put(0, " + far + ")", new ClosureFlows().put(0, far), false);
        }
    }

    /** Lambda 1 has three parameters, 2 one and 3 none; 4 is no kin of 2 and 3. */
    private static ClosureFlows family() {
        return Programs.withLambdas(0, 3, 1, 1, 2, 0, 1, 2);
    }

    private void putTakesVisibleParameters() {
        int[][] visible = {{}, {110, 111, 112}, {110, 111, 112, 120}, {110, 111, 112, 120}, {110, 111, 112, 140, 141}};
        for (int lambda = 0; lambda < visible.length; lambda++) {
            for (int atom = 90; atom < 200; atom++) {
                due.is("put(" + lambda + ", " + atom + ")", family().put(lambda, atom), has(visible[lambda], atom));
            }
        }
    }

    private void putTakesChildren() {
        int[][] children = {{201}, {202, 204}, {203}, {}, {}};
        for (int lambda = 0; lambda < children.length; lambda++) {
            for (int atom = 200; atom < 300; atom++) {
                due.is("put(" + lambda + ", " + atom + ")", family().put(lambda, atom), has(children[lambda], atom));
            }
        }
        ClosureFlows full = Programs.withLambdas(0, 1, 1, 1, 2, 1, 3, 1, 4, 1, 5, 3, 6, 3);
        due.is("put(6, 207)", full.put(6, 207), true);
        due.is("put(7, 110)", full.put(7, 110), true);
        due.is("put(7, 172)", full.put(7, 172), true);
        due.is("put(7, 180)", full.put(7, 180), false);
        due.is("put(7, 208)", full.put(7, 208), false);
    }

    private static boolean has(int[] atoms, int atom) {
        for (int one : atoms) {
            if (one == atom) {
                return true;
            }
        }
        return false;
    }

    private void putRefusesUnknownLambdas() {
        ClosureFlows flows = family();
        due.is("put(-1, 0)", flows.put(-1, 0), false);
        due.is("put(5, 0)", flows.put(5, 0), false);
        due.is("put(8, 0)", flows.put(8, 0), false);
        for (int far : FAR) {
            due.is("put(" + far + ", 0)", flows.put(far, 0), false);
        }
        due.is("put(4, 0)", flows.put(4, 0), true);
    }

    private void putStopsAtFour() {
        ClosureFlows flows = Programs.withLambdas(0, 0);
        Programs.call(flows, 0, 1, 2, 3, 4);
        due.is("put(0, 5), the fifth", flows.put(0, 5), false);
        due.is("atom(0, 3)", flows.atom(0, 3), 4);
        due.is("atom(0, 4)", flows.atom(0, 4), -1);
        due.is("atom(1, 0)", flows.atom(1, 0), -1);
        due.is("put(1, 6)", flows.put(1, 6), true);
        due.is("atom(1, 0)", flows.atom(1, 0), 6);
    }

    private void putForgetsRuns() {
        ClosureFlows flows = withRuns();
        due.is("put(1, 5)", flows.put(1, 5), true);
        checkNoRuns("after put", flows);
    }

    private void clearLeavesLambdaZero() {
        ClosureFlows flows = family();
        Programs.call(flows, 0, 201, 1, 2);
        Programs.call(flows, 1, 300, 110);
        flows.clear();
        due.is("cleared: lambdas()", flows.lambdas(), 1);
        for (int lambda = 0; lambda < 5; lambda++) {
            due.is("cleared: atom(" + lambda + ", 0)", flows.atom(lambda, 0), -1);
        }
        due.is("cleared: put(1, 0)", flows.put(1, 0), false);
        due.is("cleared: put(0, 201)", flows.put(0, 201), false);
        due.is("cleared: lambda(1, 0)", flows.lambda(1, 0), -1);
        due.is("cleared: lambda(0, 1)", flows.lambda(0, 1), 1);
        due.is("cleared: atom(1, 0) of the new lambda", flows.atom(1, 0), -1);
        due.is("cleared: put(1, 111) of the old lambda", flows.put(1, 111), false);
        due.is("cleared: put(1, 202) of the old lambda", flows.put(1, 202), false);
        Programs.call(flows, 0, 9, 8, 7, 6);
        due.is("cleared: atom(0, 3)", flows.atom(0, 3), 6);
        flows.clear();
        due.is("cleared again: lambda(0, 2)", flows.lambda(0, 2), 1);
        due.is("cleared again: lambda(0, 2)", flows.lambda(0, 2), 2);
        due.is("cleared again: put(2, 110), no ancestor any more", flows.put(2, 110), false);
    }

    private void clearForgetsRuns() {
        ClosureFlows flows = withRuns();
        flows.clear();
        checkNoRuns("after clear", flows);
        flows.start();
        due.is("analyse(0)", flows.analyse(0), 1);
        flows.clear();
        checkNoRuns("after clear of what was clear", flows);
    }

    private void atomTellsCalls() {
        ClosureFlows flows = family();
        Programs.call(flows, 2, 302, 120, 203, 112);
        Programs.call(flows, 1, 0);
        int[] atoms = {302, 120, 203, 112};
        for (int i = 0; i < atoms.length; i++) {
            due.is("atom(2, " + i + ")", flows.atom(2, i), atoms[i]);
        }
        due.is("atom(1, 0)", flows.atom(1, 0), 0);
        due.is("atom(1, 1)", flows.atom(1, 1), -1);
        due.is("atom(2, 4)", flows.atom(2, 4), -1);
        due.is("atom(2, -1)", flows.atom(2, -1), -1);
        due.is("atom(-1, 0)", flows.atom(-1, 0), -1);
        due.is("atom(5, 0)", flows.atom(5, 0), -1);
        due.is("atom(8, 0)", flows.atom(8, 0), -1);
        for (int far : FAR) {
            due.is("atom(" + far + ", 0)", flows.atom(far, 0), -1);
            due.is("atom(2, " + far + ")", flows.atom(2, far), -1);
        }
    }

    private void refusedCallsChangeNothing() {
        ClosureFlows flows = withRuns();
        due.is("lambda(2, 0)", flows.lambda(2, 0), -1);
        due.is("lambda(0, 4)", flows.lambda(0, 4), -1);
        due.is("put(2, 0)", flows.put(2, 0), false);
        due.is("put(1, 111)", flows.put(1, 111), false);
        due.is("step(101)", flows.step(101), -1);
        due.is("analyse(2)", flows.analyse(2), -1);
        checkRunsAreThere("after refusals", flows);
    }
}
