/** Promises 14 to 19: analyse, flow, contours, constants, closures, results. */
public final class AnalysisTest {
    private static final int[] FAR = {Integer.MIN_VALUE, -1000, Integer.MAX_VALUE, 1000};
    private static final int HALT = Programs.HALT;
    private static final int ADD = Programs.ADD;
    private static final int IFZERO = Programs.IFZERO;
    private static final int HALT_BIT = 1 << 10;
    private static final int ADD_BIT = 1 << 11;
    private static final int IFZERO_BIT = 1 << 12;
    private static final int PAIR = 8192;

    private final Due due = new Due("AnalysisTest");

    public static void main(String[] args) {
        AnalysisTest test = new AnalysisTest();
        test.analyseAnswersStates();
        test.analyseRefuses();
        test.analyseLeavesTheMachine();
        test.analyseAgain();
        test.noAnalysis();
        test.wrongLambdas();
        test.wrongParameters();
        test.argumentsMustFit();
        test.haltTakesOneArgument();
        test.resultsOfEveryKind();
        test.addOfSets();
        test.addDoesNothing();
        test.addHandsOn();
        test.ifzeroOfSets();
        test.ifzeroDoesNothing();
        test.operatorsOfEveryKind();
        test.contoursKeepCallersApart();
        test.ancestorsAreCarriedOver();
        test.unreachedLambdas();
        test.olderLambdasAreVisited();
        test.due.end();
    }

    private void analyseAnswersStates() {
        due.is("analyse(0) of nothing", new ClosureFlows().analyse(0), 1);
        due.is("analyse(1) of nothing", new ClosureFlows().analyse(1), 1);
        ClosureFlows flows = Programs.endless();
        due.is("analyse(0) of the endless one", flows.analyse(0), 2);
        due.is("contours(0)", flows.contours(0), 1);
        due.is("contours(1)", flows.contours(1), 1);
        due.is("analyse(1) of the endless one", flows.analyse(1), 3);
        due.is("contours(0)", flows.contours(0), 1);
        due.is("contours(1)", flows.contours(1), 3);
        due.is("results()", flows.results(), 0);
    }

    private void analyseRefuses() {
        ClosureFlows flows = Programs.endless();
        due.is("analyse(-1)", flows.analyse(-1), -1);
        due.is("results() after a refusal", flows.results(), -1);
        due.is("analyse(1)", flows.analyse(1), 3);
        due.is("analyse(2)", flows.analyse(2), -1);
        for (int far : FAR) {
            due.is("analyse(" + far + ")", flows.analyse(far), -1);
        }
        due.is("contours(1) after refusals", flows.contours(1), 3);
        due.is("results() after refusals", flows.results(), 0);
    }

    private void analyseLeavesTheMachine() {
        ClosureFlows flows = Programs.haltWithFive();
        flows.start();
        due.is("step(1)", flows.step(1), 1);
        due.is("analyse(1)", flows.analyse(1), 2);
        due.is("state() after analyse", flows.state(), 1);
        due.is("at() after analyse", flows.at(), 1);
        due.is("value(1, 0) after analyse", flows.value(1, 0), 5);
        due.is("called(0) after analyse", flows.called(0), 2);
        due.is("step(5) after analyse", flows.step(5), 1);
        due.is("result()", flows.result(), 5);
        due.is("results() after steps", flows.results(), 32);
        ClosureFlows idle = Programs.haltWithFive();
        due.is("analyse(0)", idle.analyse(0), 2);
        due.is("state() after analyse", idle.state(), 0);
    }

    /** Nothing of an older analysis is left in a newer one. */
    private void analyseAgain() {
        ClosureFlows flows = Programs.endless();
        due.is("analyse(1)", flows.analyse(1), 3);
        due.is("analyse(0)", flows.analyse(0), 2);
        due.is("contours(1)", flows.contours(1), 1);
        flows = Programs.haltWithFive();
        due.is("analyse(0)", flows.analyse(0), 2);
        flows.clear();
        due.is("lambda(0, 1)", flows.lambda(0, 1), 1);
        due.is("analyse(0) of the new program", flows.analyse(0), 1);
        due.is("flow(0)", flows.flow(0), 0);
        due.is("contours(1)", flows.contours(1), 0);
        due.is("constants(1, 0)", flows.constants(1, 0), 0);
        due.is("results()", flows.results(), 0);
        Programs.call(flows, 0, 201, 201);
        due.is("analyse(1)", flows.analyse(1), 2);
        due.is("closures(1, 0)", flows.closures(1, 0), 2);
        flows.clear();
        due.is("lambda(0, 1)", flows.lambda(0, 1), 1);
        due.is("analyse(1)", flows.analyse(1), 1);
        due.is("closures(1, 0)", flows.closures(1, 0), 0);
    }

    private void noAnalysis() {
        ClosureFlows flows = Programs.haltWithFive();
        flows.start();
        due.is("step(100)", flows.step(100), 2);
        due.is("flow(0)", flows.flow(0), -1);
        due.is("contours(0)", flows.contours(0), -1);
        due.is("constants(1, 0)", flows.constants(1, 0), -1);
        due.is("closures(1, 0)", flows.closures(1, 0), -1);
        due.is("results()", flows.results(), -1);
    }

    private void wrongLambdas() {
        ClosureFlows flows = Programs.haltWithFive();
        due.is("analyse(0)", flows.analyse(0), 2);
        due.is("flow(1)", flows.flow(1), 0);
        for (int lambda : new int[] {-1, 2, 7, 8, Integer.MIN_VALUE, Integer.MAX_VALUE}) {
            due.is("flow(" + lambda + ")", flows.flow(lambda), -1);
            due.is("contours(" + lambda + ")", flows.contours(lambda), -1);
            due.is("constants(" + lambda + ", 0)", flows.constants(lambda, 0), -1);
            due.is("closures(" + lambda + ", 0)", flows.closures(lambda, 0), -1);
        }
    }

    private void wrongParameters() {
        for (int params = 0; params <= 3; params++) {
            ClosureFlows flows = Programs.withLambdas(0, params);
            due.is("analyse(0)", flows.analyse(0), 1);
            for (int i = -1; i <= 4; i++) {
                int want = i >= 0 && i < params ? 0 : -1;
                due.is("constants(1, " + i + ") of " + params, flows.constants(1, i), want);
                due.is("closures(1, " + i + ") of " + params, flows.closures(1, i), want);
            }
            for (int far : FAR) {
                due.is("constants(1, " + far + ")", flows.constants(1, far), -1);
                due.is("closures(1, " + far + ")", flows.closures(1, far), -1);
            }
            due.is("constants(0, 0)", flows.constants(0, 0), -1);
            due.is("closures(0, 0)", flows.closures(0, 0), -1);
        }
    }

    private void argumentsMustFit() {
        for (int params = 0; params <= 3; params++) {
            for (int arguments = 0; arguments <= 3; arguments++) {
                ClosureFlows flows = Programs.withLambdas(0, params);
                Programs.call(flows, 0, 201);
                for (int i = 0; i < arguments; i++) {
                    Programs.call(flows, 0, 4 + i);
                }
                String what = params + " parameters, " + arguments + " arguments";
                boolean fits = params == arguments;
                due.is(what + ": analyse(1)", flows.analyse(1), fits ? 2 : 1);
                due.is(what + ": flow(0)", flows.flow(0), fits ? 2 : 0);
                due.is(what + ": contours(1)", flows.contours(1), fits ? 1 : 0);
                for (int i = 0; i < params; i++) {
                    due.is(what + ": constants(1, " + i + ")", flows.constants(1, i), fits ? 16 << i : 0);
                }
            }
        }
    }

    private void results(String what, ClosureFlows flows, int want) {
        for (int k = 0; k <= 1; k++) {
            flows.analyse(k);
            due.is(what + ", k = " + k + ": results()", flows.results(), want);
        }
    }

    private void haltTakesOneArgument() {
        results("halt of nothing", Programs.oneCall(HALT), 0);
        results("halt of one", Programs.oneCall(HALT, 7), 128);
        results("halt of two", Programs.oneCall(HALT, 7, 7), 0);
        results("halt of three", Programs.oneCall(HALT, 7, 7, 7), 0);
        results("a number to one", Programs.oneCall(7, 7), 0);
        results("an empty call", new ClosureFlows(), 0);
    }

    private void resultsOfEveryKind() {
        for (int number = 0; number < 10; number++) {
            results("halt of " + number, Programs.oneCall(HALT, number), 1 << number);
        }
        results("halt of halt", Programs.oneCall(HALT, HALT), HALT_BIT);
        results("halt of add", Programs.oneCall(HALT, ADD), ADD_BIT);
        results("halt of ifzero", Programs.oneCall(HALT, IFZERO), IFZERO_BIT);
        ClosureFlows closure = Programs.withLambdas(0, 1);
        Programs.call(closure, 0, HALT, 201);
        results("halt of a closure", closure, PAIR);
        ClosureFlows either = mixed(4, 0, IFZERO, 0);
        Programs.call(either, 4, HALT, 140);
        due.is("analyse(0)", either.analyse(0), 5);
        due.is("results() of a mixed set", either.results(), 1 << 4 | IFZERO_BIT);
        ClosureFlows pair = mixed(203, 0, 6, 0);
        Programs.call(pair, 4, HALT, 140);
        due.is("analyse(0)", pair.analyse(0), 5);
        due.is("results() of a mixed set with a pair", pair.results(), 1 << 6 | PAIR);
    }

    /**
     * In the call of lambda 4, which is empty yet, 140 is the first or third atom and 141 the second or fourth when k
     * is 0; when k is 1, they are the third and the fourth. Lambda 5 has one parameter, lambdas 6 and 7 none.
     */
    private static ClosureFlows mixed(int first, int second, int third, int fourth) {
        ClosureFlows flows = Programs.withLambdas(0, 3, 0, 1, 2, 2, 3, 2, 4, 1, 4, 0, 4, 0);
        Programs.call(flows, 0, 202, 201);
        Programs.call(flows, 1, 112, 110, 111);
        Programs.call(flows, 2, 120, first, second, 203);
        Programs.call(flows, 3, 120, third, fourth, 204);
        return flows;
    }

    private void addOfSets() {
        ClosureFlows flows = mixed(9, 1, 4, 3);
        Programs.call(flows, 4, ADD, 140, 141, 205);
        Programs.call(flows, 5, HALT, 150);
        due.is("analyse(0)", flows.analyse(0), 6);
        due.is("constants(4, 0)", flows.constants(4, 0), 1 << 9 | 1 << 4);
        due.is("constants(4, 1)", flows.constants(4, 1), 1 << 1 | 1 << 3);
        due.is("constants(5, 0)", flows.constants(5, 0), 1 | 1 << 2 | 1 << 5 | 1 << 7);
        due.is("results()", flows.results(), 1 | 1 << 2 | 1 << 5 | 1 << 7);
        due.is("analyse(1)", flows.analyse(1), 7);
        due.is("constants(4, 0) with contours", flows.constants(4, 0), 1 << 4);
        due.is("constants(5, 0) with contours", flows.constants(5, 0), 1 << 7);
        due.is("results() with contours", flows.results(), 1 << 7);
        ClosureFlows others = mixed(9, 1, HALT, 204);
        Programs.call(others, 4, ADD, 140, 141, HALT);
        due.is("analyse(0)", others.analyse(0), 5);
        due.is("closures(4, 1)", others.closures(4, 1), 1 << 4);
        due.is("results() of numbers and others", others.results(), 1);
        due.is("analyse(1)", others.analyse(1), 6);
        due.is("results() of others alone", others.results(), 0);
    }

    private void addDoesNothing() {
        results("add of nothing", Programs.oneCall(ADD), 0);
        results("add of one", Programs.oneCall(ADD, 1), 0);
        results("add of two", Programs.oneCall(ADD, 1, HALT), 0);
        results("add of no number first", Programs.oneCall(ADD, HALT, 2, HALT), 0);
        results("add of no number second", Programs.oneCall(ADD, 1, IFZERO, HALT), 0);
        results("add to a number", Programs.oneCall(ADD, 1, 2, 3), 0);
        results("add to add", Programs.oneCall(ADD, 1, 2, ADD), 0);
        results("add to halt", Programs.oneCall(ADD, 6, 6, HALT), 4);
        for (int params = 0; params <= 3; params++) {
            ClosureFlows flows = Programs.withLambdas(0, params);
            Programs.call(flows, 0, ADD, 1, 2, 201);
            due.is("analyse(0), add to a closure of " + params, flows.analyse(0), params == 1 ? 2 : 1);
            due.is("flow(0), add to a closure of " + params, flows.flow(0), params == 1 ? 2 : 0);
        }
    }

    private void addHandsOn() {
        for (int first = 0; first < 10; first++) {
            for (int second = 0; second < 10; second++) {
                ClosureFlows flows = Programs.withLambdas(0, 1);
                Programs.call(flows, 0, ADD, first, second, 201);
                due.is("analyse(1) of " + first + " + " + second, flows.analyse(1), 2);
                due.is("constants(1, 0) of " + first + " + " + second, flows.constants(1, 0), 1 << (first + second) % 10);
                due.is("closures(1, 0) of " + first + " + " + second, flows.closures(1, 0), 0);
                due.is("flow(0) of " + first + " + " + second, flows.flow(0), 2);
            }
        }
    }

    private static ClosureFlows choose(int first) {
        ClosureFlows flows = Programs.withLambdas(0, 0, 0, 0);
        Programs.call(flows, 0, IFZERO, first, 201, 202);
        Programs.call(flows, 1, HALT, 1);
        Programs.call(flows, 2, HALT, 2);
        return flows;
    }

    private void ifzeroOfSets() {
        for (int number = 0; number < 10; number++) {
            ClosureFlows flows = choose(number);
            results("ifzero of " + number, flows, number == 0 ? 2 : 4);
            due.is("flow(0) of ifzero of " + number, flows.flow(0), number == 0 ? 2 : 4);
            due.is("contours(1) of ifzero of " + number, flows.contours(1), number == 0 ? 1 : 0);
        }
        int[] firsts = {0, 0, 3, HALT, 0, 5, 203};
        int[] thirds = {5, 0, 9, ADD, HALT, IFZERO, 0};
        int[] wants = {6, 2, 4, 0, 2, 4, 2};
        for (int i = 0; i < firsts.length; i++) {
            ClosureFlows flows = mixed(firsts[i], 0, thirds[i], 0);
            Programs.call(flows, 4, IFZERO, 140, 206, 207);
            Programs.call(flows, 6, HALT, 1);
            Programs.call(flows, 7, HALT, 2);
            due.is("analyse(0)", flows.analyse(0), 5 + Integer.bitCount(wants[i]));
            due.is("results() of ifzero of " + firsts[i] + " or " + thirds[i], flows.results(), wants[i]);
            due.is("flow(4) of ifzero of " + firsts[i] + " or " + thirds[i], flows.flow(4), wants[i] << 5);
        }
    }

    private void ifzeroDoesNothing() {
        results("ifzero of nothing", Programs.oneCall(IFZERO), 0);
        results("ifzero of two", Programs.oneCall(IFZERO, 0, HALT), 0);
        results("ifzero to halt", Programs.oneCall(IFZERO, 0, HALT, HALT), 0);
        results("ifzero of halt", choose(HALT), 0);
        for (int params = 0; params <= 3; params++) {
            ClosureFlows flows = Programs.withLambdas(0, params);
            Programs.call(flows, 0, IFZERO, 7, 0, 201);
            due.is("analyse(0), ifzero to a closure of " + params, flows.analyse(0), params == 0 ? 2 : 1);
        }
    }

    private void operatorsOfEveryKind() {
        ClosureFlows primitives = mixed(ADD, 0, IFZERO, 0);
        Programs.call(primitives, 4, 140, 0, 206, 207);
        due.is("analyse(0)", primitives.analyse(0), 6);
        due.is("flow(4) of add or ifzero", primitives.flow(4), 1 << 6);
        ClosureFlows sums = mixed(ADD, HALT, IFZERO, 204);
        Programs.call(sums, 4, 140, 3, 4, 141);
        due.is("analyse(0)", sums.analyse(0), 5);
        due.is("results() of add or ifzero", sums.results(), 1 << 7);
        ClosureFlows halting = mixed(HALT, 0, 8, 0);
        Programs.call(halting, 4, 140, 5);
        due.is("analyse(0)", halting.analyse(0), 5);
        due.is("results() of halt or a number", halting.results(), 1 << 5);
        ClosureFlows pairs = mixed(203, 0, 204, 0);
        Programs.call(pairs, 4, 140, 8, 9);
        due.is("analyse(0)", pairs.analyse(0), 5);
        due.is("closures(4, 0) of two pairs", pairs.closures(4, 0), 1 << 3 | 1 << 4);
        due.is("flow(4) of two pairs", pairs.flow(4), 1 << 3 | 1 << 4);
        due.is("constants(3, 0) of two pairs", pairs.constants(3, 0), 1 << 8);
        due.is("constants(3, 1) of two pairs", pairs.constants(3, 1), 1 | 1 << 9);
        due.is("analyse(1)", pairs.analyse(1), 7);
        due.is("closures(4, 0) with contours", pairs.closures(4, 0), 1 << 4);
        due.is("flow(4) with contours", pairs.flow(4), 1 << 4);
        due.is("contours(4) with contours", pairs.contours(4), 1 << 1 | 1 << 4);
    }

    /** Lambda 1 hands what it gets to what it gets; it is called by lambdas 2 and 3. */
    private void contoursKeepCallersApart() {
        ClosureFlows flows = mixed(1, 0, 2, 0);
        Programs.call(flows, 4, HALT, 130);
        due.is("analyse(0)", flows.analyse(0), 5);
        due.is("results()", flows.results(), 6);
        int[] all = {1 << 2, 1 << 3 | 1 << 4, 1 << 1, 1 << 1, 0, 0, 0, 0};
        for (int lambda = 0; lambda < all.length; lambda++) {
            due.is("flow(" + lambda + ")", flows.flow(lambda), all[lambda]);
            due.is("contours(" + lambda + ")", flows.contours(lambda), lambda < 5 ? 1 : 0);
        }
        due.is("analyse(1)", flows.analyse(1), 6);
        due.is("results() with contours", flows.results(), 2);
        int[] contours = {1, 1 << 2 | 1 << 3, 1, 1 << 1, 1 << 1, 0, 0, 0};
        for (int lambda = 0; lambda < all.length; lambda++) {
            due.is("flow(" + lambda + ") with contours", flows.flow(lambda), all[lambda]);
            due.is("contours(" + lambda + ") with contours", flows.contours(lambda), contours[lambda]);
        }
        due.is("constants(1, 0) with contours", flows.constants(1, 0), 6);
        due.is("closures(1, 2) with contours", flows.closures(1, 2), 1 << 3 | 1 << 4);
        due.is("constants(3, 0) with contours", flows.constants(3, 0), 2);
        due.is("constants(4, 0) with contours", flows.constants(4, 0), 4);
    }

    /** Lambda 4 is three calls away from what lambda 1 was given, and sees it still. */
    private void ancestorsAreCarriedOver() {
        ClosureFlows flows = Programs.withLambdas(0, 2, 1, 1, 2, 0, 3, 1);
        Programs.call(flows, 0, 201, 5, 201);
        Programs.call(flows, 1, 202, ADD);
        Programs.call(flows, 2, 203);
        Programs.call(flows, 3, 204, 111);
        Programs.call(flows, 4, 120, 110, 6, HALT);
        for (int k = 0; k <= 1; k++) {
            due.is("analyse(" + k + ")", flows.analyse(k), 5);
            due.is("results()", flows.results(), 2);
            due.is("constants(1, 0)", flows.constants(1, 0), 32);
            due.is("closures(1, 0)", flows.closures(1, 0), 0);
            due.is("constants(1, 1)", flows.constants(1, 1), 0);
            due.is("closures(1, 1)", flows.closures(1, 1), 2);
            due.is("constants(2, 0)", flows.constants(2, 0), ADD_BIT);
            due.is("constants(4, 0)", flows.constants(4, 0), 0);
            due.is("closures(4, 0)", flows.closures(4, 0), 2);
            due.is("contours(4)", flows.contours(4), k == 0 ? 1 : 1 << 3);
        }
    }

    private void unreachedLambdas() {
        ClosureFlows flows = Programs.withLambdas(0, 1, 0, 1);
        Programs.call(flows, 0, 201, 3);
        Programs.call(flows, 2, HALT, 1);
        for (int k = 0; k <= 1; k++) {
            due.is("analyse(" + k + ")", flows.analyse(k), 2);
            due.is("flow(1) of an empty call", flows.flow(1), 0);
            due.is("flow(2)", flows.flow(2), 0);
            due.is("contours(2)", flows.contours(2), 0);
            due.is("constants(2, 0)", flows.constants(2, 0), 0);
            due.is("closures(2, 0)", flows.closures(2, 0), 0);
            due.is("results()", flows.results(), 0);
        }
    }

    /** That lambda 2 calls lambda 1 adds a state and nothing else, and lambda 1 was passed over by then. */
    private void olderLambdasAreVisited() {
        ClosureFlows flows = Programs.withLambdas(0, 0, 0, 1, 0, 2);
        Programs.call(flows, 0, 203, 202, 201);
        Programs.call(flows, 1, HALT, 5);
        Programs.call(flows, 2, 120);
        Programs.call(flows, 3, 130, 131);
        for (int k = 0; k <= 1; k++) {
            due.is("analyse(" + k + ")", flows.analyse(k), 4);
            due.is("flow(2)", flows.flow(2), 1 << 1);
            due.is("results()", flows.results(), 1 << 5);
        }
    }
}
