/** Promises 7 to 13: start, step, state, at, value, result, called. */
public final class MachineTest {
    private static final int[] FAR = {Integer.MIN_VALUE, -1000, Integer.MAX_VALUE, 1000};
    private static final int HALT = Programs.HALT;
    private static final int ADD = Programs.ADD;
    private static final int IFZERO = Programs.IFZERO;

    private final Due due = new Due("MachineTest");

    public static void main(String[] args) {
        MachineTest test = new MachineTest();
        test.startsAnew();
        test.stepCounts();
        test.stepRefuses();
        test.haltTakesOneArgument();
        test.resultsAreTold();
        test.addSums();
        test.addGetsStuck();
        test.addHandsOn();
        test.ifzeroChooses();
        test.ifzeroGetsStuck();
        test.closuresNeedTheirArguments();
        test.numbersAreNotApplied();
        test.exhaustion();
        test.exhaustionSparesTheRest();
        test.exhaustionThroughPrimitives();
        test.valuesAreTold();
        test.environmentsAreStatic();
        test.closuresKeepTheirEnvironment();
        test.calledSets();
        test.notStarted();
        test.due.end();
    }

    private void run(String what, ClosureFlows flows, int steps, int state, int at) {
        flows.start();
        due.is(what + ": step(100)", flows.step(100), steps);
        due.is(what + ": state()", flows.state(), state);
        due.is(what + ": at()", flows.at(), at);
        due.is(what + ": step(100) again", flows.step(100), 0);
        due.is(what + ": state() again", flows.state(), state);
        if (state != 2) {
            due.is(what + ": result()", flows.result(), -1);
        }
    }

    private void startsAnew() {
        ClosureFlows flows = Programs.haltWithFive();
        for (int round = 0; round < 3; round++) {
            flows.start();
            due.is("state() after start", flows.state(), 1);
            due.is("at() after start", flows.at(), 0);
            due.is("result() after start", flows.result(), -1);
            due.is("called(0) after start", flows.called(0), 0);
            due.is("value(1, 0) after start", flows.value(1, 0), -1);
            due.is("step(" + (round + 1) + ")", flows.step(round + 1), Math.min(round + 1, 2));
        }
        due.is("analyse(0)", flows.analyse(0), 2);
        flows.start();
        due.is("results() after start", flows.results(), 32);
        ClosureFlows endless = Programs.endless();
        run("endless", endless, 64, 4, 1);
        run("endless anew", endless, 64, 4, 1);
    }

    private void stepCounts() {
        ClosureFlows flows = Programs.haltWithFive();
        flows.start();
        due.is("step(0)", flows.step(0), 0);
        due.is("at() after step(0)", flows.at(), 0);
        due.is("state() after step(0)", flows.state(), 1);
        due.is("step(1)", flows.step(1), 1);
        due.is("at() after step(1)", flows.at(), 1);
        due.is("state() after step(1)", flows.state(), 1);
        due.is("step(1), which halts", flows.step(1), 1);
        due.is("state() when done", flows.state(), 2);
        due.is("at() when done", flows.at(), 1);
        due.is("step(1) when done", flows.step(1), 0);
        due.is("step(0) when done", flows.step(0), 0);
        flows.start();
        due.is("step(2)", flows.step(2), 2);
        due.is("result()", flows.result(), 5);
    }

    private void stepRefuses() {
        ClosureFlows flows = Programs.haltWithFive();
        due.is("step(0) before start", flows.step(0), -1);
        due.is("step(1) before start", flows.step(1), -1);
        flows.start();
        due.is("step(-1)", flows.step(-1), -1);
        due.is("step(101)", flows.step(101), -1);
        for (int far : FAR) {
            due.is("step(" + far + ")", flows.step(far), -1);
        }
        due.is("at() after refusals", flows.at(), 0);
        due.is("step(100)", flows.step(100), 2);
        due.is("step(101) when done", flows.step(101), -1);
        due.is("step(-1) when done", flows.step(-1), -1);
        due.is("state() after refusals", flows.state(), 2);
    }

    private void haltTakesOneArgument() {
        run("halt of 7", Programs.oneCall(HALT, 7), 1, 2, 0);
        run("halt of nothing", Programs.oneCall(HALT), 1, 3, 0);
        run("halt of two", Programs.oneCall(HALT, 7, 7), 1, 3, 0);
        run("halt of three", Programs.oneCall(HALT, 7, 7, 7), 1, 3, 0);
    }

    private void resultsAreTold() {
        int[] atoms = {0, 9, HALT, ADD, IFZERO};
        for (int atom : atoms) {
            ClosureFlows flows = Programs.oneCall(HALT, atom);
            run("halt of " + atom, flows, 1, 2, 0);
            due.is("result() of " + atom, flows.result(), atom);
        }
        ClosureFlows nested = Programs.withLambdas(0, 1, 1, 0, 1, 2);
        Programs.call(nested, 0, 201, 4);
        Programs.call(nested, 1, HALT, 203);
        run("halt of a closure", nested, 2, 2, 1);
        due.is("result() of a closure", nested.result(), 203);
        nested.start();
        due.is("result() when started anew", nested.result(), -1);
        due.is("step(1)", nested.step(1), 1);
        due.is("result() when it can go on", nested.result(), -1);
    }

    private void addSums() {
        for (int first = 0; first < 10; first++) {
            for (int second = 0; second < 10; second++) {
                ClosureFlows flows = Programs.oneCall(ADD, first, second, HALT);
                String what = first + " + " + second;
                run(what, flows, 1, 2, 0);
                due.is(what + ": result()", flows.result(), (first + second) % 10);
            }
        }
    }

    private void addGetsStuck() {
        run("add of nothing", Programs.oneCall(ADD), 1, 3, 0);
        run("add of one", Programs.oneCall(ADD, 1), 1, 3, 0);
        run("add of two", Programs.oneCall(ADD, 1, 2), 1, 3, 0);
        run("add of no number first", Programs.oneCall(ADD, HALT, 2, HALT), 1, 3, 0);
        run("add of no number second", Programs.oneCall(ADD, 1, HALT, HALT), 1, 3, 0);
        run("add to a number", Programs.oneCall(ADD, 1, 2, 3), 1, 3, 0);
        run("add to add", Programs.oneCall(ADD, 1, 2, ADD), 1, 3, 0);
        run("add to ifzero", Programs.oneCall(ADD, 1, 2, IFZERO), 1, 3, 0);
        ClosureFlows flows = Programs.withLambdas(0, 1);
        Programs.call(flows, 0, ADD, 201, 1, HALT);
        run("add of a closure", flows, 1, 3, 0);
        for (int params = 0; params <= 3; params++) {
            ClosureFlows other = Programs.withLambdas(0, params);
            Programs.call(other, 0, ADD, 1, 2, 201);
            Programs.call(other, 1, HALT, 0);
            run("add to a closure of " + params, other, params == 1 ? 2 : 1, params == 1 ? 2 : 3, params == 1 ? 1 : 0);
        }
    }

    private void addHandsOn() {
        ClosureFlows flows = Programs.withLambdas(0, 1);
        Programs.call(flows, 0, ADD, 8, 7, 201);
        Programs.call(flows, 1, HALT, 110);
        flows.start();
        due.is("step(1) of add", flows.step(1), 1);
        due.is("at() after add", flows.at(), 1);
        due.is("value(1, 0) after add", flows.value(1, 0), 5);
        due.is("called(0) after add", flows.called(0), 2);
        due.is("step(1)", flows.step(1), 1);
        due.is("result()", flows.result(), 5);
    }

    private void ifzeroChooses() {
        for (int number = 0; number < 10; number++) {
            ClosureFlows flows = Programs.withLambdas(0, 0, 0, 0);
            Programs.call(flows, 0, IFZERO, number, 201, 202);
            Programs.call(flows, 1, HALT, 1);
            Programs.call(flows, 2, HALT, 2);
            int chosen = number == 0 ? 1 : 2;
            run("ifzero of " + number, flows, 2, 2, chosen);
            due.is("result() of ifzero of " + number, flows.result(), chosen);
            due.is("called(0) of ifzero of " + number, flows.called(0), 1 << chosen);
        }
    }

    private void ifzeroGetsStuck() {
        run("ifzero of nothing", Programs.oneCall(IFZERO), 1, 3, 0);
        run("ifzero of one", Programs.oneCall(IFZERO, 0), 1, 3, 0);
        run("ifzero of two", Programs.oneCall(IFZERO, 0, 1), 1, 3, 0);
        run("ifzero of no number", Programs.oneCall(IFZERO, HALT, 1, 2), 1, 3, 0);
        run("ifzero to halt", Programs.oneCall(IFZERO, 0, HALT, HALT), 1, 3, 0);
        run("ifzero to ifzero", Programs.oneCall(IFZERO, 1, IFZERO, IFZERO), 1, 3, 0);
        for (int params = 0; params <= 3; params++) {
            ClosureFlows flows = Programs.withLambdas(0, params, 0, 0);
            Programs.call(flows, 0, IFZERO, 0, 201, 202);
            Programs.call(flows, 1, HALT, 0);
            run("ifzero to a closure of " + params, flows, params == 0 ? 2 : 1, params == 0 ? 2 : 3, params == 0 ? 1 : 0);
        }
        ClosureFlows closure = Programs.withLambdas(0, 0);
        Programs.call(closure, 0, IFZERO, 201, 201, 201);
        run("ifzero of a closure", closure, 1, 3, 0);
    }

    private void closuresNeedTheirArguments() {
        for (int params = 0; params <= 3; params++) {
            for (int arguments = 0; arguments <= 3; arguments++) {
                ClosureFlows flows = Programs.withLambdas(0, params);
                Programs.call(flows, 0, 201);
                for (int i = 0; i < arguments; i++) {
                    Programs.call(flows, 0, 4 + i);
                }
                String what = params + " parameters, " + arguments + " arguments";
                boolean fits = params == arguments;
                run(what, flows, fits ? 2 : 1, 3, fits ? 1 : 0);
                due.is(what + ": called(0)", flows.called(0), fits ? 2 : 0);
                for (int i = 0; i < 3; i++) {
                    due.is(what + ": value(1, " + i + ")", flows.value(1, i), fits && i < params ? 4 + i : -1);
                }
            }
        }
    }

    private void numbersAreNotApplied() {
        run("a number alone", Programs.oneCall(0), 1, 3, 0);
        run("a number to one", Programs.oneCall(9, 1), 1, 3, 0);
        run("a number to three", Programs.oneCall(1, 1, 2, HALT), 1, 3, 0);
    }

    private void exhaustion() {
        ClosureFlows flows = Programs.endless();
        flows.start();
        due.is("step(63)", flows.step(63), 63);
        due.is("state() after 63", flows.state(), 1);
        due.is("step(1)", flows.step(1), 1);
        due.is("state() after 64", flows.state(), 1);
        due.is("step(0)", flows.step(0), 0);
        due.is("step(1), one too many", flows.step(1), 0);
        due.is("state() when exhausted", flows.state(), 4);
        due.is("at() when exhausted", flows.at(), 1);
        due.is("value(1, 0) when exhausted", flows.value(1, 0), 201);
        due.is("called(0) when exhausted", flows.called(0), 2);
        due.is("called(1) when exhausted", flows.called(1), 2);
        due.is("result() when exhausted", flows.result(), -1);
        due.is("step(100) when exhausted", flows.step(100), 0);
        flows.start();
        due.is("state() when started anew", flows.state(), 1);
        due.is("called(1) when started anew", flows.called(1), 0);
    }

    /**
     * Lambda 1 counts 110 down and then, in lambda 2, 111 down (with 110 from 2 again); when both are 0, lambda 5 is
     * called. Of 110 a count takes 3 closures, of 111 it takes 4: lambda 5 is the closure number
     * 1 + 3 * 7 + 4 * (4 + 3 * 2) + 2 = 64.
     */
    private static ClosureFlows sixtyFourClosures(int... lastCall) {
        ClosureFlows flows = Programs.withLambdas(0, 3, 1, 0, 1, 0, 3, 1, 2, 0, 2, 0, 6, 1);
        Programs.call(flows, 0, 201, 7, 4, 201);
        Programs.call(flows, 1, IFZERO, 110, 202, 203);
        Programs.call(flows, 2, IFZERO, 111, 205, 206);
        Programs.call(flows, 3, ADD, 110, 9, 204);
        Programs.call(flows, 4, 112, 140, 111, 112);
        Programs.call(flows, 5, lastCall);
        Programs.call(flows, 6, ADD, 111, 9, 207);
        Programs.call(flows, 7, 112, 2, 170, 112);
        return flows;
    }

    private void exhaustionSparesTheRest() {
        int[][] lastCalls = {{HALT, 8}, {ADD, 4, 4, HALT}, {0}, {}, {112, 1}, {IFZERO, 0, 112, 112}};
        int[] states = {2, 2, 3, 3, 3, 3};
        for (int i = 0; i < lastCalls.length; i++) {
            ClosureFlows flows = sixtyFourClosures(lastCalls[i]);
            flows.start();
            due.is("last call " + i + ": step(64)", flows.step(64), 64);
            due.is("last call " + i + ": state() at the limit", flows.state(), 1);
            due.is("last call " + i + ": at() at the limit", flows.at(), 5);
            due.is("last call " + i + ": step(100)", flows.step(100), 1);
            due.is("last call " + i + ": state()", flows.state(), states[i]);
            due.is("last call " + i + ": at()", flows.at(), 5);
            due.is("last call " + i + ": result()", flows.result(), states[i] == 2 ? 8 : -1);
        }
        ClosureFlows more = sixtyFourClosures(112, 1, 2, 3);
        run("a closure too many", more, 64, 4, 5);
        due.is("called(5) of a step that was not made", more.called(5), 0);
        due.is("called(2)", more.called(2), 1 << 5 | 1 << 6);
        due.is("value(1, 0) of a step that was not made", more.value(1, 0), 0);
        due.is("value(1, 2) of a step that was not made", more.value(1, 2), 201);
    }

    private void exhaustionThroughPrimitives() {
        ClosureFlows adding = Programs.withLambdas(0, 0, 1, 1, 2, 1);
        Programs.call(adding, 0, 201);
        Programs.call(adding, 1, 202, 202);
        Programs.call(adding, 2, ADD, 1, 2, 203);
        Programs.call(adding, 3, 120, 120);
        run("endless adding", adding, 64, 4, 2);
        ClosureFlows choosing = Programs.withLambdas(0, 0, 1, 1, 2, 0);
        Programs.call(choosing, 0, 201);
        Programs.call(choosing, 1, 202, 202);
        Programs.call(choosing, 2, IFZERO, 2, 0, 203);
        Programs.call(choosing, 3, 120, 120);
        run("endless choosing", choosing, 64, 4, 2);
        due.is("called(2)", choosing.called(2), 8);
        due.is("called(3)", choosing.called(3), 4);
    }

    private void valuesAreTold() {
        int[] atoms = {0, 9, HALT, ADD, IFZERO, 201, 202};
        for (int atom : atoms) {
            ClosureFlows flows = Programs.withLambdas(0, 2, 0, 1);
            Programs.call(flows, 0, 201, atom, 3);
            flows.start();
            due.is("value(1, 0) before the call", flows.value(1, 0), -1);
            due.is("step(1)", flows.step(1), 1);
            due.is("value(1, 0) of " + atom, flows.value(1, 0), atom);
            due.is("value(1, 1)", flows.value(1, 1), 3);
            due.is("value(1, 2)", flows.value(1, 2), -1);
            due.is("value(1, -1)", flows.value(1, -1), -1);
            due.is("value(0, 0)", flows.value(0, 0), -1);
            due.is("value(2, 0)", flows.value(2, 0), -1);
            due.is("value(3, 0)", flows.value(3, 0), -1);
            due.is("value(-1, 0)", flows.value(-1, 0), -1);
            for (int far : FAR) {
                due.is("value(1, " + far + ")", flows.value(1, far), -1);
                due.is("value(" + far + ", 0)", flows.value(far, 0), -1);
            }
            due.is("step(1), stuck", flows.step(1), 1);
            due.is("value(1, 0) when stuck", flows.value(1, 0), atom);
        }
    }

    /** Lambda 2 is called from lambda 1 but stands beside it: it does not see what lambda 1 has. */
    private void environmentsAreStatic() {
        ClosureFlows flows = Programs.withLambdas(0, 1, 0, 1, 2, 0);
        Programs.call(flows, 0, 201, 202);
        Programs.call(flows, 1, 110, 6);
        Programs.call(flows, 2, 203);
        Programs.call(flows, 3, HALT, 120);
        flows.start();
        due.is("step(1)", flows.step(1), 1);
        due.is("value(1, 0) at 1", flows.value(1, 0), 202);
        due.is("step(1)", flows.step(1), 1);
        due.is("at()", flows.at(), 2);
        due.is("value(1, 0) at 2", flows.value(1, 0), -1);
        due.is("value(2, 0) at 2", flows.value(2, 0), 6);
        due.is("step(1)", flows.step(1), 1);
        due.is("at()", flows.at(), 3);
        due.is("value(2, 0) at 3", flows.value(2, 0), 6);
        due.is("value(1, 0) at 3", flows.value(1, 0), -1);
        due.is("step(1)", flows.step(1), 1);
        due.is("value(2, 0) when done", flows.value(2, 0), 6);
        due.is("result()", flows.result(), 6);
    }

    /** Lambda 1 is called with 1 and makes a closure of lambda 2; it is called with 2 and applies that closure. */
    private void closuresKeepTheirEnvironment() {
        ClosureFlows flows = Programs.withLambdas(0, 3, 1, 2, 0, 2);
        Programs.call(flows, 0, 201, 1, 203, 201);
        Programs.call(flows, 1, 111, 202, 112);
        Programs.call(flows, 2, HALT, 110);
        Programs.call(flows, 3, 131, 2, 130, 130);
        flows.start();
        due.is("step(2)", flows.step(2), 2);
        due.is("value(3, 0)", flows.value(3, 0), 202);
        due.is("value(3, 1)", flows.value(3, 1), 201);
        due.is("step(1)", flows.step(1), 1);
        due.is("at()", flows.at(), 1);
        due.is("value(1, 0) the second time", flows.value(1, 0), 2);
        due.is("step(1)", flows.step(1), 1);
        due.is("at()", flows.at(), 2);
        due.is("value(1, 0) of the closure", flows.value(1, 0), 1);
        due.is("value(1, 1) of the closure", flows.value(1, 1), 203);
        due.is("value(2, 0)", flows.value(2, 0), 202);
        due.is("value(2, 1)", flows.value(2, 1), 202);
        due.is("step(1)", flows.step(1), 1);
        due.is("result()", flows.result(), 1);
    }

    private void calledSets() {
        ClosureFlows flows = Programs.withLambdas(0, 1, 0, 0, 1, 0);
        Programs.call(flows, 0, 201, 202);
        Programs.call(flows, 1, IFZERO, 0, 203, 110);
        Programs.call(flows, 3, IFZERO, 1, 5, 110);
        Programs.call(flows, 2, HALT, 0);
        run("calls", flows, 4, 2, 2);
        int[] sets = {1 << 1, 1 << 3, 0, 1 << 2};
        for (int lambda = 0; lambda < sets.length; lambda++) {
            due.is("called(" + lambda + ")", flows.called(lambda), sets[lambda]);
        }
        due.is("called(-1)", flows.called(-1), -1);
        due.is("called(4)", flows.called(4), -1);
        due.is("called(8)", flows.called(8), -1);
        for (int far : FAR) {
            due.is("called(" + far + ")", flows.called(far), -1);
        }
        flows.start();
        due.is("called(0) when started anew", flows.called(0), 0);
        due.is("step(1)", flows.step(1), 1);
        due.is("called(0)", flows.called(0), 2);
        due.is("called(1)", flows.called(1), 0);
    }

    private void notStarted() {
        ClosureFlows flows = Programs.haltWithFive();
        due.is("analyse(1)", flows.analyse(1), 2);
        due.is("state() before start", flows.state(), 0);
        due.is("at() before start", flows.at(), -1);
        due.is("value(1, 0) before start", flows.value(1, 0), -1);
        due.is("result() before start", flows.result(), -1);
        due.is("called(0) before start", flows.called(0), -1);
    }
}
