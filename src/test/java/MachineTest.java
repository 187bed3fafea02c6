/** Promises 7 to 13, and what "Terms" says of the machine; each test names the words that it belongs to. */
public final class MachineTest {
    private static final int[] FAR = Programs.FAR;
    private static final int HALT = Programs.HALT;
    private static final int ADD = Programs.ADD;
    private static final int IFZERO = Programs.IFZERO;

    private final Due due = new Due("MachineTest");

    public static void main(String[] args) {
        MachineTest test = new MachineTest();
        test.start();
        test.values();
        test.closures();
        test.primitives();
        test.otherWays();
        test.exhaustion();
        test.step();
        test.stateAndAt();
        test.value();
        test.result();
        test.called();
        test.lastOfFiveHundredAndTwelveCalls();
        test.due.end();
    }

    private void run(String what, ClosureFlows flows, int steps, int state, int at) {
        flows.start();
        due.is(what + ": step(100)", flows.step(100), steps);
        due.is(what + ": state()", flows.state(), state);
        due.is(what + ": at()", flows.at(), at);
    }

    private void runsToResult(String what, ClosureFlows flows, int steps, int at, int result) {
        run(what, flows, steps, 2, at);
        due.is(what + ": result()", flows.result(), result);
    }

    private void runsStuck(String what, ClosureFlows flows, int steps, int at) {
        run(what, flows, steps, 3, at);
        due.is(what + ": result()", flows.result(), -1);
    }

    private void start() {
        startsFromEveryState();
        startsAtLambdaZero();
        startsWithTheEmptyEnvironment();
        startsCountingAnew();
        startKeepsTheRest();
    }

    private void startsFromEveryState() {
        due.promise("7", "Starts the machine (anew)");
        for (int state = 0; state <= 4; state++) {
            ClosureFlows flows = Programs.inState(state);
            flows.start();
            due.is("state() when it was " + state, flows.state(), 1);
            due.is("result() when it was " + state, flows.result(), -1);
            due.is("called(0) when it was " + state, flows.called(0), 0);
            due.is("called(1) when it was " + state, flows.called(1), 0);
            due.is("step(1) when it was " + state, flows.step(1), 1);
            due.is("at() when it was " + state, flows.at(), 1);
        }
    }

    private void startsAtLambdaZero() {
        due.terms("7, 10", "at first at lambda 0");
        for (int state = 0; state <= 4; state++) {
            ClosureFlows flows = Programs.inState(state);
            flows.start();
            due.is("at() when it was " + state, flows.at(), 0);
        }
    }

    private void startsWithTheEmptyEnvironment() {
        due.terms("7, 11", "with the empty one");
        for (int state = 0; state <= 4; state++) {
            ClosureFlows flows = Programs.inState(state);
            flows.start();
            for (int i = 0; i < 3; i++) {
                due.is("value(0, " + i + ") when it was " + state, flows.value(0, i), -1);
                due.is("value(1, " + i + ") when it was " + state, flows.value(1, i), -1);
            }
        }
    }

    private void startsCountingAnew() {
        due.terms("7, 8", "In one run at most 64 closures [started anew]");
        ClosureFlows flows = Programs.endless();
        for (int round = 0; round < 3; round++) {
            flows.start();
            due.is("step(40)", flows.step(40), 40);
            flows.start();
            due.is("step(100)", flows.step(100), 64);
            due.is("state()", flows.state(), 4);
        }
    }

    private void startKeepsTheRest() {
        due.promise("7", "Starts the machine [and nothing else]");
        ClosureFlows flows = Programs.haltWithFive();
        due.is("analyse(1)", flows.analyse(1), 2);
        flows.start();
        due.is("results()", flows.results(), 32);
        due.is("lambdas()", flows.lambdas(), 2);
        due.is("atom(1, 1)", flows.atom(1, 1), 110);
    }

    private void values() {
        constantsAreThemselves();
        parametersHaveTheirValues();
        lambdasBecomeClosures();
        environmentsGoByKinship();
    }

    private void constantsAreThemselves() {
        due.terms("8, 11", "a number or a primitive is itself");
        for (int atom : new int[] {0, 1, 9, HALT, ADD, IFZERO}) {
            ClosureFlows flows = Programs.withLambdas(0, 3);
            Programs.call(flows, 0, 201, 7, atom, 8);
            flows.start();
            due.is("step(1)", flows.step(1), 1);
            due.is("value(1, 0)", flows.value(1, 0), 7);
            due.is("value(1, 1) of " + atom, flows.value(1, 1), atom);
            due.is("value(1, 2)", flows.value(1, 2), 8);
        }
    }

    /** The parameters are handed on in another order, and those of an ancestor too. */
    private void parametersHaveTheirValues() {
        due.terms("8, 11", "a parameter has the value that the environment gives it");
        ClosureFlows flows = Programs.withLambdas(0, 3, 1, 3, 2, 2);
        Programs.call(flows, 0, 201, 1, 2, 3);
        Programs.call(flows, 1, 202, 112, 110, 111);
        Programs.call(flows, 2, 203, 111, 120);
        Programs.call(flows, 3, HALT, 130);
        flows.start();
        due.is("step(3)", flows.step(3), 3);
        int[][] values = {{-1, -1, -1}, {1, 2, 3}, {3, 1, 2}, {2, 3, -1}};
        for (int lambda = 0; lambda < values.length; lambda++) {
            for (int i = 0; i < 3; i++) {
                due.is("value(" + lambda + ", " + i + ")", flows.value(lambda, i), values[lambda][i]);
            }
        }
        due.is("step(1)", flows.step(1), 1);
        due.is("result()", flows.result(), 2);
    }

    /** Lambda 1 is called with 1 and makes a closure of lambda 2; it is called with 2 and applies that closure. */
    private void lambdasBecomeClosures() {
        due.terms("8, 11", "a lambda becomes the closure of that lambda with the environment as it is");
        ClosureFlows flows = Programs.withLambdas(0, 3, 1, 2, 0, 2);
        Programs.call(flows, 0, 201, 1, 203, 201);
        Programs.call(flows, 1, 111, 202, 112);
        Programs.call(flows, 2, HALT, 110);
        Programs.call(flows, 3, 131, 2, 130, 130);
        flows.start();
        due.is("step(2)", flows.step(2), 2);
        due.is("value(3, 0)", flows.value(3, 0), 202);
        due.is("value(3, 1)", flows.value(3, 1), 201);
        due.is("step(1)", flows.step(1), 1);
        due.is("at()", flows.at(), 1);
        due.is("value(1, 0) the second time", flows.value(1, 0), 2);
        due.is("step(1)", flows.step(1), 1);
        due.is("at()", flows.at(), 2);
        due.is("value(1, 0) of the closure", flows.value(1, 0), 1);
        due.is("value(1, 1) of the closure", flows.value(1, 1), 203);
        due.is("value(2, 0)", flows.value(2, 0), 202);
        due.is("value(2, 1)", flows.value(2, 1), 202);
        due.is("step(1)", flows.step(1), 1);
        due.is("result()", flows.result(), 1);
    }

    /** Lambda 2 is called at lambda 1 but stands beside it: it does not see what lambda 1 has. */
    private void environmentsGoByKinship() {
        due.terms("11", "every parameter of some lambda and of its ancestors");
        ClosureFlows flows = Programs.withLambdas(0, 1, 0, 1, 2, 0);
        Programs.call(flows, 0, 201, 202);
        Programs.call(flows, 1, 110, 6);
        Programs.call(flows, 2, 203);
        Programs.call(flows, 3, HALT, 120);
        int[][] values = {{-1, -1}, {202, -1}, {-1, 6}, {-1, 6}, {-1, 6}};
        flows.start();
        for (int steps = 0; steps < values.length; steps++) {
            due.is("value(1, 0) after " + steps, flows.value(1, 0), values[steps][0]);
            due.is("value(2, 0) after " + steps, flows.value(2, 0), values[steps][1]);
            due.is("step(1) after " + steps, flows.step(1), steps < 4 ? 1 : 0);
        }
        due.is("result()", flows.result(), 6);
    }

    private void closures() {
        for (int params = 0; params <= 3; params++) {
            for (int arguments = 0; arguments <= 3; arguments++) {
                closureNeedsItsArguments(params, arguments);
            }
        }
    }

    private void closureNeedsItsArguments(int params, int arguments) {
        due.terms("8", "A closure, whose lambda has as many parameters as there are arguments");
        ClosureFlows flows = Programs.withLambdas(0, params);
        Programs.call(flows, 0, 201);
        for (int i = 0; i < arguments; i++) {
            Programs.call(flows, 0, 4 + i);
        }
        Programs.call(flows, 1, HALT, 0);
        String what = params + " parameters, " + arguments + " arguments";
        boolean fits = params == arguments;
        if (fits) {
            runsToResult(what, flows, 2, 1, 0);
        } else {
            runsStuck(what, flows, 1, 0);
        }
        due.is(what + ": called(0)", flows.called(0), fits ? 2 : 0);
        for (int i = 0; i < 3; i++) {
            due.is(what + ": value(1, " + i + ")", flows.value(1, i), fits && i < params ? 4 + i : -1);
        }
    }

    private void primitives() {
        haltNeedsOneArgument();
        addNeedsThreeArguments();
        addNeedsNumbers();
        addSumsModuloTen();
        addAppliesTheThird();
        ifzeroNeedsThreeArguments();
        ifzeroNeedsANumber();
        ifzeroChooses();
        ifzeroGivesNoArguments();
    }

    private void haltNeedsOneArgument() {
        due.terms("8", "HALT to one argument: the machine is DONE, the argument is the result");
        runsToResult("halt of one", Programs.oneCall(HALT, 7), 1, 0, 7);
        runsStuck("halt of none", Programs.oneCall(HALT), 1, 0);
        runsStuck("halt of two", Programs.oneCall(HALT, 7, 7), 1, 0);
        runsStuck("halt of three", Programs.oneCall(HALT, 7, 7, 7), 1, 0);
    }

    private void addNeedsThreeArguments() {
        due.terms("8", "ADD to three arguments");
        runsStuck("add of none", Programs.oneCall(ADD), 1, 0);
        runsStuck("add of one", Programs.oneCall(ADD, 1), 1, 0);
        runsStuck("add of two", Programs.oneCall(ADD, 1, 2), 1, 0);
        runsToResult("add of three", Programs.oneCall(ADD, 1, 2, HALT), 1, 0, 3);
        ClosureFlows before = Programs.oneCall(ADD, 1, 2, HALT);
        before.start();
        before.step(1);
        before.clear();
        Programs.call(before, 0, ADD, 1, 2);
        runsStuck("add of two where three were before", before, 1, 0);
    }

    private void addNeedsNumbers() {
        due.terms("8", "of which the first two are numbers");
        for (int other : new int[] {HALT, ADD, IFZERO, 201}) {
            ClosureFlows first = Programs.withLambdas(0, 1);
            Programs.call(first, 0, ADD, other, 2, HALT);
            runsStuck("add of " + other + " and 2", first, 1, 0);
            ClosureFlows second = Programs.withLambdas(0, 1);
            Programs.call(second, 0, ADD, 2, other, HALT);
            runsStuck("add of 2 and " + other, second, 1, 0);
        }
    }

    private void addSumsModuloTen() {
        due.terms("8", "the third is applied to (their sum modulo 10)");
        for (int first = 0; first < 10; first++) {
            for (int second = 0; second < 10; second++) {
                int sum = first + second < 10 ? first + second : first + second - 10;
                runsToResult(first + " + " + second, Programs.oneCall(ADD, first, second, HALT), 1, 0, sum);
            }
        }
    }

    private void addAppliesTheThird() {
        due.terms("8", "the third is applied to (their sum ..) [one argument alone]");
        for (int params = 0; params <= 3; params++) {
            ClosureFlows flows = Programs.withLambdas(0, params);
            Programs.call(flows, 0, ADD, 8, 7, 201);
            if (params == 1) {
                Programs.call(flows, 1, HALT, 110);
                runsToResult("add to a closure of one", flows, 2, 1, 5);
            } else {
                runsStuck("add to a closure of " + params, flows, 1, 0);
            }
        }
    }

    private void ifzeroNeedsThreeArguments() {
        due.terms("8", "IFZERO to three arguments");
        for (int arguments = 0; arguments <= 3; arguments++) {
            ClosureFlows flows = Programs.withLambdas(0, 0);
            int[] atoms = {IFZERO, 0, 201, 201};
            for (int i = 0; i <= arguments; i++) {
                Programs.call(flows, 0, atoms[i]);
            }
            Programs.call(flows, 1, HALT, 4);
            if (arguments == 3) {
                runsToResult("ifzero of three", flows, 2, 1, 4);
            } else {
                runsStuck("ifzero of " + arguments, flows, 1, 0);
            }
        }
    }

    private void ifzeroNeedsANumber() {
        due.terms("8", "of which the first is a number");
        for (int other : new int[] {HALT, ADD, IFZERO, 201}) {
            ClosureFlows flows = Programs.withLambdas(0, 0);
            Programs.call(flows, 0, IFZERO, other, 201, 201);
            runsStuck("ifzero of " + other, flows, 1, 0);
        }
    }

    private void ifzeroChooses() {
        due.terms("8", "if that is 0, the second, otherwise the third is applied");
        for (int number = 0; number < 10; number++) {
            ClosureFlows flows = Programs.withLambdas(0, 0, 0, 0);
            Programs.call(flows, 0, IFZERO, number, 201, 202);
            Programs.call(flows, 1, HALT, 1);
            Programs.call(flows, 2, HALT, 2);
            int chosen = number == 0 ? 1 : 2;
            runsToResult("ifzero of " + number, flows, 2, chosen, chosen);
        }
    }

    private void ifzeroGivesNoArguments() {
        due.terms("8", "the second, otherwise the third is applied to no arguments");
        for (int number = 0; number < 2; number++) {
            for (int params = 0; params <= 3; params++) {
                ClosureFlows flows = Programs.withLambdas(0, params);
                Programs.call(flows, 0, IFZERO, number, number == 0 ? 201 : 5, number == 0 ? 5 : 201);
                Programs.call(flows, 1, HALT, 6);
                String what = "ifzero of " + number + " to a closure of " + params;
                if (params == 0) {
                    runsToResult(what, flows, 2, 1, 6);
                } else {
                    runsStuck(what, flows, 1, 0);
                }
            }
        }
    }

    private void otherWays() {
        numbersAreNotApplied();
        primitivesAreNotAppliedByOthers();
        emptyCalls();
    }

    private void numbersAreNotApplied() {
        due.terms("8", "Whatever is applied in any other way: the machine is STUCK [numbers]");
        for (int number = 0; number < 10; number++) {
            runsStuck(number + " to none", Programs.oneCall(number), 1, 0);
            runsStuck(number + " to one", Programs.oneCall(number, 1), 1, 0);
            runsStuck(number + " to two", Programs.oneCall(number, 1, 2), 1, 0);
            runsStuck(number + " to three", Programs.oneCall(number, 1, 2, HALT), 1, 0);
            runsStuck("add to " + number, Programs.oneCall(ADD, 1, 2, number), 1, 0);
            runsStuck("ifzero to " + number, Programs.oneCall(IFZERO, 0, number, HALT), 1, 0);
            runsStuck("ifzero to " + number, Programs.oneCall(IFZERO, 1, HALT, number), 1, 0);
        }
    }

    private void primitivesAreNotAppliedByOthers() {
        due.terms("8", "Whatever is applied in any other way: the machine is STUCK [primitives]");
        runsStuck("add to add", Programs.oneCall(ADD, 1, 2, ADD), 1, 0);
        runsStuck("add to ifzero", Programs.oneCall(ADD, 1, 2, IFZERO), 1, 0);
        for (int primitive : new int[] {HALT, ADD, IFZERO}) {
            runsStuck("ifzero of 0 to " + primitive, Programs.oneCall(IFZERO, 0, primitive, 1), 1, 0);
            runsStuck("ifzero of 1 to " + primitive, Programs.oneCall(IFZERO, 1, 1, primitive), 1, 0);
        }
    }

    private void emptyCalls() {
        due.terms("8", "STUCK; also if the call is empty");
        runsStuck("lambda 0 is empty", new ClosureFlows(), 1, 0);
        ClosureFlows other = Programs.withLambdas(0, 1);
        Programs.call(other, 0, 201, 5);
        runsStuck("lambda 1 is empty", other, 2, 1);
        due.is("value(1, 0) at the empty call", other.value(1, 0), 5);
    }

    private void exhaustion() {
        sixtyFourthClosureIsApplied();
        sixtyFifthClosureIsNot();
        stepNotMadeChangesNothing();
        otherStepsAreMadeAtTheLimit();
        misfitsAreStuckAtTheLimit();
        primitivesReachTheLimit();
    }

    private void sixtyFourthClosureIsApplied() {
        due.terms("8, 9", "In one run at most 64 closures may be applied");
        ClosureFlows flows = Programs.endless();
        flows.start();
        due.is("step(63)", flows.step(63), 63);
        due.is("state() after 63", flows.state(), 1);
        due.is("step(1), the closure number 64", flows.step(1), 1);
        due.is("state() after 64", flows.state(), 1);
        due.is("step(0)", flows.step(0), 0);
        due.is("state() after step(0)", flows.state(), 1);
    }

    private void sixtyFifthClosureIsNot() {
        due.terms("8, 9", "a step that would apply one more is not made; the machine is EXHAUSTED then");
        ClosureFlows flows = Programs.endless();
        flows.start();
        due.is("step(64)", flows.step(64), 64);
        due.is("step(1), the closure number 65", flows.step(1), 0);
        due.is("state()", flows.state(), 4);
        for (int n : new int[] {65, 99, 100}) {
            flows.start();
            due.is("step(" + n + ")", flows.step(n), 64);
            due.is("state() after step(" + n + ")", flows.state(), 4);
        }
    }

    /**
     * Lambda 1 counts 110 down and then, in lambda 2, 111 down (with 110 from 2 again); when both are 0, lambda 5 is
     * called. Of 110 a count takes 3 closures, of 111 it takes 4: lambda 5 is the closure number
     * 1 + 3 * 7 + 4 * (4 + 3 * 2) + 2 = 64.
     */
    private static ClosureFlows sixtyFourClosures(int... lastCall) {
        ClosureFlows flows = Programs.withLambdas(0, 3, 1, 0, 1, 0, 3, 1, 2, 0, 2, 0, 6, 1);
        Programs.call(flows, 0, 201, 7, 4, 201);
        Programs.call(flows, 1, IFZERO, 110, 202, 203);
        Programs.call(flows, 2, IFZERO, 111, 205, 206);
        Programs.call(flows, 3, ADD, 110, 9, 204);
        Programs.call(flows, 4, 112, 140, 111, 112);
        Programs.call(flows, 5, lastCall);
        Programs.call(flows, 6, ADD, 111, 9, 207);
        Programs.call(flows, 7, 112, 2, 170, 112);
        return flows;
    }

    private void stepNotMadeChangesNothing() {
        due.terms("10, 11, 13", "a step that would apply one more is not made");
        ClosureFlows flows = sixtyFourClosures(112, 1, 2, 3);
        run("a closure too many", flows, 64, 4, 5);
        due.is("called(5) of a step that was not made", flows.called(5), 0);
        due.is("called(2)", flows.called(2), 1 << 5 | 1 << 6);
        due.is("value(1, 0) of a step that was not made", flows.value(1, 0), 0);
        due.is("value(1, 1) of a step that was not made", flows.value(1, 1), 0);
        due.is("value(1, 2) of a step that was not made", flows.value(1, 2), 201);
    }

    private void otherStepsAreMadeAtTheLimit() {
        due.terms("8, 9", "a step that would apply one more [and no other] is not made");
        int[][] lastCalls = {{HALT, 8}, {ADD, 4, 4, HALT}, {0}, {}};
        for (int i = 0; i < lastCalls.length; i++) {
            atTheLimit("last call " + i, sixtyFourClosures(lastCalls[i]), i < 2 ? 2 : 3);
        }
    }

    private void misfitsAreStuckAtTheLimit() {
        due.terms("8, 9", "Whatever is applied in any other way: the machine is STUCK [at the limit too]");
        atTheLimit("a closure to one", sixtyFourClosures(112, 1), 3);
        atTheLimit("ifzero to a closure of three", sixtyFourClosures(IFZERO, 0, 112, 112), 3);
        atTheLimit("add to a closure of three", sixtyFourClosures(ADD, 0, 1, 112), 3);
    }

    private void atTheLimit(String what, ClosureFlows flows, int state) {
        flows.start();
        due.is(what + ": step(64)", flows.step(64), 64);
        due.is(what + ": state() at the limit", flows.state(), 1);
        due.is(what + ": at() at the limit", flows.at(), 5);
        due.is(what + ": step(100)", flows.step(100), 1);
        due.is(what + ": state()", flows.state(), state);
        due.is(what + ": at()", flows.at(), 5);
        due.is(what + ": result()", flows.result(), state == 2 ? 8 : -1);
    }

    private void primitivesReachTheLimit() {
        due.terms("8, 9", "at most 64 closures may be applied [by ADD and IFZERO too]");
        ClosureFlows adding = Programs.withLambdas(0, 0, 1, 1, 2, 1);
        Programs.call(adding, 0, 201);
        Programs.call(adding, 1, 202, 202);
        Programs.call(adding, 2, ADD, 1, 2, 203);
        Programs.call(adding, 3, 120, 120);
        run("endless adding", adding, 64, 4, 2);
        ClosureFlows choosing = Programs.withLambdas(0, 0, 1, 1, 2, 0);
        Programs.call(choosing, 0, 201);
        Programs.call(choosing, 1, 202, 202);
        Programs.call(choosing, 2, IFZERO, 2, 0, 203);
        Programs.call(choosing, 3, 120, 120);
        run("endless choosing", choosing, 64, 4, 2);
    }

    private void step() {
        stepMakesAsManyAsAsked();
        stepStopsWhereTheMachineDoes();
        stepCountsTheLast();
        stepWhenItDoesNotRun();
        stepTakesZeroToAHundred();
        stepRefusesOthers();
        stepRefusesBeforeStart();
    }

    private void stepMakesAsManyAsAsked() {
        due.promise("8", "Makes steps until n are made");
        for (int n = 0; n <= 64; n++) {
            ClosureFlows flows = sixtyFourClosures(HALT, 8);
            flows.start();
            due.is("step(" + n + ")", flows.step(n), n);
            due.is("state() after step(" + n + ")", flows.state(), 1);
            due.is("the rest after step(" + n + ")", flows.step(100), 65 - n);
        }
    }

    private void stepStopsWhereTheMachineDoes() {
        due.promise("8", "or the machine does not run any more");
        ClosureFlows flows = sixtyFourClosures(HALT, 8);
        for (int n : new int[] {65, 66, 100}) {
            flows.start();
            due.is("step(" + n + ")", flows.step(n), 65);
        }
        ClosureFlows stuck = Programs.stuckWithFive();
        stuck.start();
        due.is("step(100)", stuck.step(100), 2);
    }

    private void stepCountsTheLast() {
        due.promise("8", "(a step after which it is DONE or STUCK counts)");
        for (int state = 2; state <= 3; state++) {
            ClosureFlows flows = Programs.inState(state);
            flows.start();
            due.is("step(1)", flows.step(1), 1);
            due.is("step(1), the last", flows.step(1), 1);
            due.is("state()", flows.state(), state);
            flows.start();
            due.is("step(2)", flows.step(2), 2);
            due.is("state()", flows.state(), state);
        }
    }

    private void stepWhenItDoesNotRun() {
        due.promise("8", "(0 when it does not run any more)");
        for (int state = 2; state <= 4; state++) {
            ClosureFlows flows = Programs.inState(state);
            int result = flows.result();
            for (int n : new int[] {0, 1, 100}) {
                due.is("step(" + n + ") in state " + state, flows.step(n), 0);
                due.is("state()", flows.state(), state);
                due.is("at()", flows.at(), 1);
                due.is("result()", flows.result(), result);
            }
        }
    }

    private void stepTakesZeroToAHundred() {
        due.promise("8", "n is .. 0 .. 100");
        ClosureFlows flows = Programs.haltWithFive();
        flows.start();
        due.is("step(0)", flows.step(0), 0);
        due.is("at() after step(0)", flows.at(), 0);
        due.is("state() after step(0)", flows.state(), 1);
        due.is("step(100)", flows.step(100), 2);
    }

    private void stepRefusesOthers() {
        due.promise("8", "-1 when n is not 0 .. 100");
        for (int state = 1; state <= 4; state++) {
            ClosureFlows flows = Programs.inState(state);
            due.is("step(-1) in state " + state, flows.step(-1), -1);
            due.is("step(101) in state " + state, flows.step(101), -1);
            for (int far : FAR) {
                due.is("step(" + far + ") in state " + state, flows.step(far), -1);
            }
            due.is("state() after refusals", flows.state(), state);
        }
    }

    private void stepRefusesBeforeStart() {
        due.promise("8", "-1 when .. the machine is not started");
        ClosureFlows flows = Programs.haltWithFive();
        for (int n : new int[] {0, 1, 100, 101, -1}) {
            due.is("step(" + n + ")", flows.step(n), -1);
        }
        due.is("state()", flows.state(), 0);
    }

    private void stateAndAt() {
        stateTellsAll();
        atTellsWhereItIs();
        atTellsWhoseCallCameLast();
        atBeforeStart();
    }

    private void stateTellsAll() {
        due.promise("9", "0 .. not started, 1 .. can go on, 2 .. DONE, 3 STUCK, 4 EXHAUSTED");
        ClosureFlows flows = Programs.haltWithFive();
        due.is("state() before start", flows.state(), 0);
        flows.start();
        due.is("state() after start", flows.state(), 1);
        flows.step(1);
        due.is("state() after a step", flows.state(), 1);
        flows.step(1);
        due.is("state() after HALT", flows.state(), 2);
        run("a number is applied", Programs.stuckWithFive(), 2, 3, 1);
        run("without an end", Programs.endless(), 64, 4, 1);
        ClosureFlows empty = new ClosureFlows();
        empty.start();
        due.is("state() at an empty call, before the step", empty.state(), 1);
    }

    private void atTellsWhereItIs() {
        due.promise("10", "The lambda at which the machine is");
        ClosureFlows flows = Programs.withLambdas(0, 0, 1, 0, 2, 0, 3, 0, 4, 0, 5, 0, 6, 0);
        for (int lambda = 0; lambda < 7; lambda++) {
            Programs.call(flows, lambda, 201 + lambda);
        }
        flows.start();
        for (int lambda = 0; lambda < 8; lambda++) {
            due.is("at()", flows.at(), lambda);
            due.is("step(1)", flows.step(1), 1);
        }
        due.is("at() when stuck", flows.at(), 7);
    }

    /** The lambda whose call came last is lambda 1, though ADD and IFZERO would have gone on to others. */
    private void atTellsWhoseCallCameLast() {
        due.promise("10", "(when it is STUCK or EXHAUSTED or DONE: whose call came last)");
        for (int state = 2; state <= 4; state++) {
            due.is("at() in state " + state, Programs.inState(state).at(), 1);
        }
        ClosureFlows stuck = Programs.withLambdas(0, 1, 1, 2);
        Programs.call(stuck, 0, 201, 5);
        Programs.call(stuck, 1, ADD, 110, 110, 202);
        runsStuck("add to a closure of two", stuck, 2, 1);
        due.is("value(1, 0)", stuck.value(1, 0), 5);
        due.is("value(2, 0)", stuck.value(2, 0), -1);
        runsToResult("halt at lambda 0", Programs.oneCall(HALT, 3), 1, 0, 3);
    }

    private void atBeforeStart() {
        due.promise("10", "-1 when it is not started");
        due.is("at()", Programs.inState(0).at(), -1);
        due.is("at() of a new object", new ClosureFlows().at(), -1);
    }

    private void value() {
        valueTellsEveryKind();
        valueWhenTheRunHasEnded();
        valueBeforeStart();
        valueOutsideTheParameters();
        valueOfNoLambda();
        valueOutsideTheEnvironment();
    }

    private void valueTellsEveryKind() {
        due.promise("11", "a number, 300 + p for a primitive as the atoms say, 200 + l for a closure of lambda l");
        for (int atom : new int[] {0, 9, HALT, ADD, IFZERO, 201, 202, 203, 204, 205, 206, 207}) {
            ClosureFlows flows = Programs.withLambdas(0, 1, 0, 0, 0, 0, 0, 1, 0, 2, 0, 3, 0, 0);
            Programs.call(flows, 0, 201, atom);
            flows.start();
            due.is("step(1)", flows.step(1), 1);
            due.is("value(1, 0) of " + atom, flows.value(1, 0), atom);
        }
        ClosureFlows late = Programs.endless();
        late.start();
        for (int steps = 1; steps <= 64; steps++) {
            due.is("step(1)", late.step(1), 1);
            due.is("value(1, 0) of a closure after " + steps, late.value(1, 0), 201);
        }
    }

    private void valueWhenTheRunHasEnded() {
        due.promise("11", "in the environment with which the machine is at at()");
        int[] values = {-1, 5, 5, 5, 201};
        for (int state = 0; state <= 4; state++) {
            due.is("value(1, 0) in state " + state, Programs.inState(state).value(1, 0), values[state]);
        }
    }

    private void valueBeforeStart() {
        due.promise("11", "-1 when the machine is not started");
        ClosureFlows flows = Programs.inState(2);
        due.is("value(1, 0) when done", flows.value(1, 0), 5);
        due.is("put(0, 1)", flows.put(0, 1), true);
        due.is("value(1, 0) when the program was changed", flows.value(1, 0), -1);
        due.is("value(1, 0) of a new object", new ClosureFlows().value(1, 0), -1);
    }

    /** Both lambdas have values, so that a place outside the parameters of one would be a place of the other. */
    private static ClosureFlows withValues() {
        ClosureFlows flows = Programs.withLambdas(0, 3, 1, 2, 0, 1);
        Programs.call(flows, 0, 201, 1, 2, 3);
        Programs.call(flows, 1, 202, 4, 5);
        flows.start();
        flows.step(2);
        return flows;
    }

    private void valueOutsideTheParameters() {
        due.promise("11", "-1 when .. that environment has no such parameter [no such i]");
        ClosureFlows flows = withValues();
        due.is("value(1, 2)", flows.value(1, 2), 3);
        due.is("value(1, 3)", flows.value(1, 3), -1);
        due.is("value(1, -1)", flows.value(1, -1), -1);
        due.is("value(2, 1)", flows.value(2, 1), 5);
        due.is("value(2, 2)", flows.value(2, 2), -1);
        due.is("value(2, -1)", flows.value(2, -1), -1);
        due.is("value(0, 0)", flows.value(0, 0), -1);
        due.is("value(0, 10), which is not value(1, 0)", flows.value(0, 10), -1);
        due.is("value(1, 10), which is not value(2, 0)", flows.value(1, 10), -1);
        for (int far : FAR) {
            due.is("value(1, " + far + ")", flows.value(1, far), -1);
            due.is("value(2, " + far + ")", flows.value(2, far), -1);
        }
    }

    private void valueOfNoLambda() {
        due.promise("11", "-1 when .. that environment has no such parameter [no such lambda]");
        ClosureFlows flows = withValues();
        for (int lambda : new int[] {-1, 4, 7, 8, 9, 10}) {
            due.is("value(" + lambda + ", 0)", flows.value(lambda, 0), -1);
        }
        for (int far : FAR) {
            due.is("value(" + far + ", 0)", flows.value(far, 0), -1);
        }
    }

    private void valueOutsideTheEnvironment() {
        due.promise("11", "-1 when .. that environment has no such parameter [of a lambda that is no ancestor]");
        ClosureFlows flows = withValues();
        due.is("value(3, 0) at 2", flows.value(3, 0), -1);
        flows.start();
        flows.step(1);
        due.is("value(1, 0) at 1", flows.value(1, 0), 1);
        due.is("value(2, 0) at 1, where it was in the run before", flows.value(2, 0), -1);
    }

    private void result() {
        resultTellsEveryKind();
        resultWhenNotDone();
    }

    private void resultTellsEveryKind() {
        due.promise("12", "The result, told as in value");
        for (int atom : new int[] {0, 9, HALT, ADD, IFZERO}) {
            runsToResult("halt of " + atom, Programs.oneCall(HALT, atom), 1, 0, atom);
        }
        ClosureFlows closure = Programs.withLambdas(0, 1, 1, 0, 1, 2);
        Programs.call(closure, 0, 201, 4);
        Programs.call(closure, 1, HALT, 203);
        runsToResult("halt of a closure", closure, 2, 1, 203);
    }

    private void resultWhenNotDone() {
        due.promise("12", "-1 when the machine is not DONE");
        for (int state = 0; state <= 4; state++) {
            due.is("result() in state " + state, Programs.inState(state).result(), state == 2 ? 5 : -1);
        }
        ClosureFlows flows = Programs.inState(2);
        flows.start();
        due.is("result() when started anew", flows.result(), -1);
        flows.step(1);
        due.is("result() when it can go on", flows.result(), -1);
        flows.step(1);
        due.is("put(0, 1)", flows.put(0, 1), true);
        due.is("result() when the program was changed", flows.result(), -1);
    }

    private void called() {
        calledTellsWhoseCallItWas();
        calledTellsPrimitivesToo();
        calledTellsHighAndManyLambdas();
        calledSinceStart();
        calledLeavesOutWhatWasStuck();
        calledBeforeStart();
        calledOfNoLambda();
    }

    /** Lambda 1 is made in the call of lambda 0, and called at lambda 2. */
    private void calledTellsWhoseCallItWas() {
        due.terms("13", "The lambda is CALLED AT the lambda whose call this was");
        ClosureFlows flows = Programs.withLambdas(0, 0, 0, 1, 2, 0);
        Programs.call(flows, 0, 202, 201);
        Programs.call(flows, 2, 120);
        run("a closure that is handed on", flows, 3, 3, 1);
        int[] sets = {1 << 2, 0, 1 << 1, 0};
        for (int lambda = 0; lambda < sets.length; lambda++) {
            due.is("called(" + lambda + ")", flows.called(lambda), sets[lambda]);
        }
    }

    private void calledTellsPrimitivesToo() {
        due.terms("13", "CALLED AT the lambda whose call this was [by ADD and IFZERO]");
        ClosureFlows flows = Programs.withLambdas(0, 1, 1, 0);
        Programs.call(flows, 0, ADD, 0, 0, 201);
        Programs.call(flows, 1, IFZERO, 110, 202, 5);
        run("add and ifzero", flows, 3, 3, 2);
        due.is("called(0)", flows.called(0), 1 << 1);
        due.is("called(1)", flows.called(1), 1 << 2);
        due.is("called(2)", flows.called(2), 0);
    }

    /** Lambda 1 applies what it gets: first lambda 7, which calls lambda 1 with HALT. */
    private void calledTellsHighAndManyLambdas() {
        due.terms("13", "SETS OF LAMBDAS .. are told as ints in which bit n stands for n");
        ClosureFlows flows = Programs.withLambdas(0, 2, 0, 0, 0, 0, 0, 0, 0, 0, 0, 1, 0, 1);
        Programs.call(flows, 0, 201, 207, 201);
        Programs.call(flows, 1, 110, 111);
        Programs.call(flows, 7, 170, HALT, 5);
        run("called twice", flows, 4, 2, 1);
        due.is("called(0)", flows.called(0), 1 << 1);
        due.is("called(1)", flows.called(1), 1 << 7);
        due.is("called(7)", flows.called(7), 1 << 1);
        ClosureFlows counting = sixtyFourClosures(HALT, 8);
        run("counting down", counting, 65, 2, 5);
        int[] sets = {1 << 1, 1 << 2 | 1 << 3, 1 << 5 | 1 << 6, 1 << 4, 1 << 1, 0, 1 << 7, 1 << 1};
        for (int lambda = 0; lambda < sets.length; lambda++) {
            due.is("called(" + lambda + ")", counting.called(lambda), sets[lambda]);
        }
    }

    private void calledSinceStart() {
        due.promise("13", "since the machine was started");
        ClosureFlows flows = Programs.inState(4);
        due.is("called(0)", flows.called(0), 2);
        due.is("called(1)", flows.called(1), 2);
        flows.start();
        due.is("called(0) when started anew", flows.called(0), 0);
        due.is("called(1) when started anew", flows.called(1), 0);
        flows.step(1);
        due.is("called(0) after a step", flows.called(0), 2);
        due.is("called(1) after a step", flows.called(1), 0);
    }

    private void calledLeavesOutWhatWasStuck() {
        due.promise("13", "The set of lambdas that were called");
        ClosureFlows flows = Programs.withLambdas(0, 1);
        Programs.call(flows, 0, 201);
        runsStuck("too few arguments", flows, 1, 0);
        due.is("called(0)", flows.called(0), 0);
        due.is("called(1), which was never reached", flows.called(1), 0);
    }

    private void calledBeforeStart() {
        due.promise("13", "-1 when it is not started");
        ClosureFlows flows = Programs.inState(0);
        due.is("called(0)", flows.called(0), -1);
        due.is("called(1)", flows.called(1), -1);
    }

    private void calledOfNoLambda() {
        due.promise("13", "-1 when .. there is no such lambda");
        for (int state = 0; state <= 4; state++) {
            ClosureFlows flows = Programs.inState(state);
            for (int lambda : new int[] {-1, 2, 7, 8, 9}) {
                due.is("called(" + lambda + ")", flows.called(lambda), -1);
            }
            for (int far : FAR) {
                due.is("called(" + far + ")", flows.called(far), -1);
            }
        }
    }

    private void lastOfFiveHundredAndTwelveCalls() {
        due.promise("7, 8, 9, 11", "An object is used for at most 512 calls after it has been made");
        ClosureFlows flows = Programs.endless();
        int calls = 5;
        while (calls < 509) {
            flows.start();
            flows.step(100);
            calls += 2;
        }
        due.is("call 510, step(100)", flows.step(100), 0);
        due.is("call 511, state()", flows.state(), 4);
        due.is("call 512, value(1, 0)", flows.value(1, 0), 201);
    }
}
