/** Promises 14 to 19, and what "Terms" says of the analysis; each test names the words that it belongs to. */
public final class AnalysisTest {
    private static final int[] FAR = Programs.FAR;
    private static final int HALT = Programs.HALT;
    private static final int ADD = Programs.ADD;
    private static final int IFZERO = Programs.IFZERO;
    private static final int HALT_BIT = 1 << 10;
    private static final int ADD_BIT = 1 << 11;
    private static final int IFZERO_BIT = 1 << 12;
    private static final int PAIR = 8192;

    private final Due due = new Due("AnalysisTest");

    public static void main(String[] args) {
        AnalysisTest test = new AnalysisTest();
        test.analyse();
        test.states();
        test.atoms();
        test.pairs();
        test.halt();
        test.add();
        test.ifzero();
        test.otherApplications();
        test.flow();
        test.contours();
        test.constants();
        test.closures();
        test.results();
        test.due.end();
    }

    private void analyse() {
        analyseTakesZeroAndOne();
        analyseRefusesOthers();
        analyseLeavesTheMachine();
        analyseCountsStates();
        analyseStartsAfresh();
        analyseGoesOnUntilNothingIsNew();
    }

    private void analyseTakesZeroAndOne() {
        due.promise("14", "Makes the analysis with k");
        ClosureFlows flows = Programs.endless();
        for (int round = 0; round < 2; round++) {
            due.is("analyse(0)", flows.analyse(0), 2);
            due.is("contours(1), k = 0", flows.contours(1), 1);
            due.is("analyse(1)", flows.analyse(1), 3);
            due.is("contours(1), k = 1", flows.contours(1), 3);
        }
    }

    private void analyseRefusesOthers() {
        due.promise("14", "-1 when k is not 0 or 1");
        ClosureFlows flows = Programs.endless();
        due.is("analyse(-1)", flows.analyse(-1), -1);
        due.is("analyse(2)", flows.analyse(2), -1);
        for (int far : FAR) {
            due.is("analyse(" + far + ")", flows.analyse(far), -1);
        }
        due.is("results() after refusals", flows.results(), -1);
        due.is("analyse(1)", flows.analyse(1), 3);
        due.is("analyse(2)", flows.analyse(2), -1);
        due.is("contours(1) after a refusal", flows.contours(1), 3);
    }

    private void analyseLeavesTheMachine() {
        due.promise("14", "(the machine stays as it is)");
        int[] values = {-1, 5, 5, 5, 201};
        for (int state = 0; state <= 4; state++) {
            for (int k = 0; k <= 1; k++) {
                ClosureFlows flows = Programs.inState(state);
                due.is("analyse(" + k + ")", flows.analyse(k), state == 4 ? 2 + k : 2);
                due.is("state()", flows.state(), state);
                due.is("at() in state " + state, flows.at(), state == 0 ? -1 : 1);
                due.is("value(1, 0) in state " + state, flows.value(1, 0), values[state]);
                due.is("result() in state " + state, flows.result(), state == 2 ? 5 : -1);
                due.is("called(0) in state " + state, flows.called(0), state == 0 ? -1 : 2);
                due.is("called(1) in state " + state, flows.called(1), state == 0 ? -1 : state == 4 ? 2 : 0);
                due.is("step(100) in state " + state, flows.step(100), state == 0 ? -1 : state == 1 ? 1 : 0);
            }
        }
    }

    private void analyseCountsStates() {
        due.promise("14", "answers how many states there are");
        for (int lambdas = 1; lambdas <= 8; lambdas++) {
            ClosureFlows flows = chain(lambdas);
            due.is("analyse(0) of a chain of " + lambdas, flows.analyse(0), lambdas);
            due.is("analyse(1) of a chain of " + lambdas, flows.analyse(1), lambdas);
        }
    }

    /** Lambda 0 calls lambda 1, which calls lambda 2, and so on; the last one has an empty call. */
    private static ClosureFlows chain(int lambdas) {
        ClosureFlows flows = new ClosureFlows();
        for (int lambda = 0; lambda < lambdas - 1; lambda++) {
            flows.lambda(lambda, 0);
            Programs.call(flows, lambda, 201 + lambda);
        }
        return flows;
    }

    private void analyseStartsAfresh() {
        due.terms("14", "These are the least sets [nothing of an older analysis is left]");
        ClosureFlows flows = Programs.haltWithFive();
        due.is("analyse(0)", flows.analyse(0), 2);
        flows.clear();
        due.is("lambda(0, 1)", flows.lambda(0, 1), 1);
        due.is("analyse(0) of the new program", flows.analyse(0), 1);
        due.is("flow(0)", flows.flow(0), 0);
        due.is("contours(1)", flows.contours(1), 0);
        due.is("constants(1, 0)", flows.constants(1, 0), 0);
        due.is("results()", flows.results(), 0);
        Programs.call(flows, 0, 201, 201);
        due.is("analyse(1)", flows.analyse(1), 2);
        due.is("closures(1, 0)", flows.closures(1, 0), 2);
        flows.clear();
        due.is("lambda(0, 1)", flows.lambda(0, 1), 1);
        due.is("analyse(1)", flows.analyse(1), 1);
        due.is("closures(1, 0)", flows.closures(1, 0), 0);
    }

    /** That lambda 2 calls lambda 1 adds a state and nothing else, and lambda 1 was passed over by then. */
    private void analyseGoesOnUntilNothingIsNew() {
        due.terms("14", "the least sets for which this holds .. For every state");
        ClosureFlows flows = Programs.withLambdas(0, 0, 0, 1, 0, 2);
        Programs.call(flows, 0, 203, 202, 201);
        Programs.call(flows, 1, HALT, 5);
        Programs.call(flows, 2, 120);
        Programs.call(flows, 3, 130, 131);
        for (int k = 0; k <= 1; k++) {
            due.is("analyse(" + k + ")", flows.analyse(k), 4);
            due.is("flow(2)", flows.flow(2), 1 << 1);
            due.is("results()", flows.results(), 1 << 5);
        }
    }

    private void states() {
        zeroIsAState();
        statesWithAnEmptyCall();
        lambdasThatAreNoStates();
    }

    private void zeroIsAState() {
        due.terms("14, 16", "(0, 0) is a state");
        ClosureFlows[] all = {new ClosureFlows(), Programs.oneCall(7), Programs.endless(), chain(8)};
        for (ClosureFlows flows : all) {
            for (int k = 0; k <= 1; k++) {
                due.is("analyse(" + k + ") is 1 or more", flows.analyse(k) >= 1, true);
                due.is("contours(0)", flows.contours(0), 1);
            }
        }
        due.is("analyse(0) of a new object", new ClosureFlows().analyse(0), 1);
        due.is("analyse(1) of a new object", new ClosureFlows().analyse(1), 1);
    }

    /** The atoms of an analysis before must not be taken for those of the empty call. */
    private void statesWithAnEmptyCall() {
        due.terms("14", "For every state (l, c) whose call is not empty");
        ClosureFlows flows = Programs.oneCall(HALT, 5);
        due.is("analyse(0)", flows.analyse(0), 1);
        flows.clear();
        for (int k = 0; k <= 1; k++) {
            due.is("analyse(" + k + ") of an empty call", flows.analyse(k), 1);
            due.is("results() of an empty call", flows.results(), 0);
            due.is("flow(0) of an empty call", flows.flow(0), 0);
        }
        ClosureFlows second = chain(2);
        for (int k = 0; k <= 1; k++) {
            due.is("analyse(" + k + ")", second.analyse(k), 2);
            due.is("flow(1) of an empty call", second.flow(1), 0);
            due.is("contours(1) of an empty call", second.contours(1), 1);
        }
    }

    private void lambdasThatAreNoStates() {
        due.terms("14", "For every state .. [and no other lambda]");
        ClosureFlows flows = Programs.withLambdas(0, 1, 0, 1);
        Programs.call(flows, 0, 201, 3);
        Programs.call(flows, 2, HALT, 1);
        for (int k = 0; k <= 1; k++) {
            due.is("analyse(" + k + ")", flows.analyse(k), 2);
            due.is("flow(2)", flows.flow(2), 0);
            due.is("contours(2)", flows.contours(2), 0);
            due.is("constants(2, 0)", flows.constants(2, 0), 0);
            due.is("closures(2, 0)", flows.closures(2, 0), 0);
            due.is("results()", flows.results(), 0);
        }
    }

    /**
     * In the call of lambda 4, which is empty yet, 140 is the first or third atom and 141 the second or fourth when k
     * is 0; when k is 1, they are the third and the fourth. Lambda 5 has one parameter, lambdas 6 and 7 none.
     */
    private static ClosureFlows mixed(int first, int second, int third, int fourth) {
        ClosureFlows flows = Programs.withLambdas(0, 3, 0, 1, 2, 2, 3, 2, 4, 1, 4, 0, 4, 0);
        Programs.call(flows, 0, 202, 201);
        Programs.call(flows, 1, 112, 110, 111);
        Programs.call(flows, 2, 120, first, second, 203);
        Programs.call(flows, 3, 120, third, fourth, 204);
        return flows;
    }

    private void atoms() {
        constantsAreOnlyThemselves();
        parametersHaveTheSetOfTheContour();
        lambdasHaveThePairOfTheContour();
    }

    private void constantsAreOnlyThemselves() {
        due.terms("17", "a number or a primitive is only itself");
        int[] atoms = {0, 1, 2, 3, 4, 5, 6, 7, 8, 9, HALT, ADD, IFZERO};
        for (int bit = 0; bit < atoms.length; bit++) {
            ClosureFlows flows = Programs.withLambdas(0, 1);
            Programs.call(flows, 0, 201, atoms[bit]);
            for (int k = 0; k <= 1; k++) {
                due.is("analyse(" + k + ")", flows.analyse(k), 2);
                due.is("constants(1, 0) of " + atoms[bit], flows.constants(1, 0), 1 << bit);
                due.is("closures(1, 0) of " + atoms[bit], flows.closures(1, 0), 0);
            }
        }
    }

    /** Lambda 1 hands on what it gets; it is called by lambda 2 with 1 and by lambda 3 with 2. */
    private void parametersHaveTheSetOfTheContour() {
        due.terms("17", "a parameter x has V(x, c)");
        ClosureFlows flows = mixed(1, 0, 2, 0);
        due.is("analyse(0)", flows.analyse(0), 5);
        due.is("constants(3, 0), k = 0", flows.constants(3, 0), 1 << 1 | 1 << 2);
        due.is("constants(4, 0), k = 0", flows.constants(4, 0), 1 << 1 | 1 << 2);
        due.is("analyse(1)", flows.analyse(1), 6);
        due.is("constants(1, 0), k = 1", flows.constants(1, 0), 1 << 1 | 1 << 2);
        due.is("constants(3, 0), k = 1", flows.constants(3, 0), 1 << 1);
        due.is("constants(4, 0), k = 1", flows.constants(4, 0), 1 << 2);
    }

    /** Lambda 3 is made at contour 1, the only one where 120 is something, and called where the contour is 2. */
    private void lambdasHaveThePairOfTheContour() {
        due.terms("19", "a lambda m has the pair (m, c)");
        ClosureFlows flows = Programs.withLambdas(0, 0, 1, 1, 2, 0);
        Programs.call(flows, 0, 201);
        Programs.call(flows, 1, 202, 6);
        Programs.call(flows, 2, 203);
        Programs.call(flows, 3, HALT, 120);
        for (int k = 0; k <= 1; k++) {
            due.is("analyse(" + k + ")", flows.analyse(k), 4);
            due.is("contours(2)", flows.contours(2), k == 0 ? 1 : 1 << 1);
            due.is("contours(3)", flows.contours(3), k == 0 ? 1 : 1 << 2);
            due.is("results()", flows.results(), 1 << 6);
        }
        ClosureFlows apart = mixed(1, 0, 2, 0);
        Programs.call(apart, 4, HALT, 130);
        due.is("analyse(0)", apart.analyse(0), 5);
        due.is("results(), k = 0", apart.results(), 1 << 1 | 1 << 2);
        due.is("analyse(1)", apart.analyse(1), 6);
        due.is("results(), k = 1", apart.results(), 1 << 1);
    }

    private void pairs() {
        pairsNeedTheirArguments();
        newContourIsTheCaller();
        argumentsGoIntoTheParameters();
        setsOfAncestorsAreCarriedOver();
        setsOfTheEnvironmentAreCarriedOver();
        ownSetsAreNotCarriedOver();
        setsOfOthersAreNotCarriedOver();
    }

    private void pairsNeedTheirArguments() {
        due.terms("14, 15", "A pair (m, e), if m has as many parameters as there are arguments");
        for (int params = 0; params <= 3; params++) {
            for (int arguments = 0; arguments <= 3; arguments++) {
                ClosureFlows flows = Programs.withLambdas(0, params);
                Programs.call(flows, 0, 201);
                for (int i = 0; i < arguments; i++) {
                    Programs.call(flows, 0, 4 + i);
                }
                String what = params + " parameters, " + arguments + " arguments";
                boolean fits = params == arguments;
                due.is(what + ": analyse(1)", flows.analyse(1), fits ? 2 : 1);
                due.is(what + ": flow(0)", flows.flow(0), fits ? 2 : 0);
                due.is(what + ": contours(1)", flows.contours(1), fits ? 1 : 0);
                for (int i = 0; i < params; i++) {
                    due.is(what + ": constants(1, " + i + ")", flows.constants(1, i), fits ? 16 << i : 0);
                }
            }
        }
    }

    private void newContourIsTheCaller() {
        due.terms("16", "let c2 be l when k is 1, and 0 when k is 0. Then (m, c2) is a state");
        ClosureFlows flows = chain(8);
        due.is("analyse(0)", flows.analyse(0), 8);
        for (int lambda = 0; lambda < 8; lambda++) {
            due.is("contours(" + lambda + "), k = 0", flows.contours(lambda), 1);
        }
        due.is("analyse(1)", flows.analyse(1), 8);
        for (int lambda = 1; lambda < 8; lambda++) {
            due.is("contours(" + lambda + "), k = 1", flows.contours(lambda), 1 << lambda - 1);
        }
    }

    private void argumentsGoIntoTheParameters() {
        due.terms("17, 18", "every abstract value of the set of argument i is in V(parameter i of m, c2)");
        ClosureFlows flows = Programs.withLambdas(0, 3);
        Programs.call(flows, 0, 201, 6, 201, HALT);
        for (int k = 0; k <= 1; k++) {
            due.is("analyse(" + k + ")", flows.analyse(k), 2);
            int[] constants = {1 << 6, 0, HALT_BIT};
            int[] closures = {0, 1 << 1, 0};
            for (int i = 0; i < 3; i++) {
                due.is("constants(1, " + i + ")", flows.constants(1, i), constants[i]);
                due.is("closures(1, " + i + ")", flows.closures(1, i), closures[i]);
            }
        }
    }

    /** Lambda 4 is three calls away from what lambda 1 was given, and sees it still. */
    private void setsOfAncestorsAreCarriedOver() {
        due.terms("17, 19", "for every parameter x of an ancestor of m");
        ClosureFlows flows = Programs.withLambdas(0, 2, 1, 1, 2, 0, 3, 1);
        Programs.call(flows, 0, 201, 5, 201);
        Programs.call(flows, 1, 202, ADD);
        Programs.call(flows, 2, 203);
        Programs.call(flows, 3, 204, 111);
        Programs.call(flows, 4, 120, 110, 6, HALT);
        for (int k = 0; k <= 1; k++) {
            due.is("analyse(" + k + ")", flows.analyse(k), 5);
            due.is("results()", flows.results(), 1 << 1);
            due.is("constants(1, 0)", flows.constants(1, 0), 1 << 5);
            due.is("closures(1, 1)", flows.closures(1, 1), 1 << 1);
            due.is("constants(2, 0)", flows.constants(2, 0), ADD_BIT);
            due.is("closures(4, 0)", flows.closures(4, 0), 1 << 1);
        }
    }

    /** Lambda 2 is made at contour 0, where 110 is 1, and called at lambda 1 when that is at contour 3 and 110 is 2. */
    private void setsOfTheEnvironmentAreCarriedOver() {
        due.terms("19", "every abstract value in V(x, e) is in V(x, c2)");
        ClosureFlows flows = Programs.withLambdas(0, 3, 1, 2, 0, 2);
        Programs.call(flows, 0, 201, 1, 203, 201);
        Programs.call(flows, 1, 111, 202, 112);
        Programs.call(flows, 2, HALT, 110);
        Programs.call(flows, 3, 131, 2, 130, 130);
        due.is("analyse(0)", flows.analyse(0), 4);
        due.is("results(), k = 0", flows.results(), 1 << 1 | 1 << 2);
        due.is("analyse(1)", flows.analyse(1), 5);
        due.is("contours(2), k = 1", flows.contours(2), 1 << 1);
        due.is("results(), k = 1", flows.results(), 1 << 1);
    }

    /** Lambda 1 is called at lambda 0 with 1 and lambda 2, and at lambda 2 with 2 and lambda 3. */
    private void ownSetsAreNotCarriedOver() {
        due.terms("17", "for every parameter x of an ancestor of m [and not of m itself]");
        ClosureFlows flows = Programs.withLambdas(0, 3, 0, 2, 2, 2);
        Programs.call(flows, 0, 201, 202, 1, 201);
        Programs.call(flows, 1, 110, 111, 112);
        Programs.call(flows, 2, 121, 203, 2, 121);
        Programs.call(flows, 3, HALT, 130);
        due.is("analyse(1)", flows.analyse(1), 5);
        due.is("contours(1)", flows.contours(1), 1 | 1 << 2);
        due.is("constants(2, 0)", flows.constants(2, 0), 1 << 1);
        due.is("constants(3, 0)", flows.constants(3, 0), 1 << 2);
        due.is("results()", flows.results(), 1 << 2);
    }

    /** Lambda 2 is called at lambda 1 but stands beside it: what 110 and 111 are at contour 0 does not come along. */
    private void setsOfOthersAreNotCarriedOver() {
        due.terms("17, 18", "for every parameter x of an ancestor of m [and of no other lambda]");
        ClosureFlows flows = Programs.withLambdas(0, 2, 0, 2);
        Programs.call(flows, 0, 201, 202, 201);
        Programs.call(flows, 1, 111, 0, 110);
        due.is("analyse(1)", flows.analyse(1), 4);
        due.is("contours(2)", flows.contours(2), 1 << 1);
        due.is("constants(1, 1)", flows.constants(1, 1), 0);
        due.is("closures(1, 1)", flows.closures(1, 1), 1 << 1 | 1 << 2);
        due.is("constants(2, 1)", flows.constants(2, 1), 1);
        due.is("closures(2, 1)", flows.closures(2, 1), 0);
    }

    private void checkResults(String what, ClosureFlows flows, int want) {
        for (int k = 0; k <= 1; k++) {
            flows.analyse(k);
            due.is(what + ", k = " + k + ": results()", flows.results(), want);
        }
    }

    private void halt() {
        haltNeedsOneArgument();
        haltTakesTheWholeSet();
    }

    private void haltNeedsOneArgument() {
        due.terms("19", "HALT to one argument");
        checkResults("halt of none", Programs.oneCall(HALT), 0);
        checkResults("halt of one", Programs.oneCall(HALT, 7), 1 << 7);
        checkResults("halt of two", Programs.oneCall(HALT, 7, 7), 0);
        checkResults("halt of three", Programs.oneCall(HALT, 7, 7, 7), 0);
    }

    private void haltTakesTheWholeSet() {
        due.terms("19", "every abstract value of the argument's set MAY BE THE RESULT");
        ClosureFlows either = mixed(4, 0, IFZERO, 0);
        Programs.call(either, 4, HALT, 140);
        due.is("analyse(0)", either.analyse(0), 5);
        due.is("results() of a number or a primitive", either.results(), 1 << 4 | IFZERO_BIT);
        ClosureFlows pair = mixed(203, 0, 6, 0);
        Programs.call(pair, 4, HALT, 140);
        due.is("analyse(0)", pair.analyse(0), 5);
        due.is("results() of a pair or a number", pair.results(), 1 << 6 | PAIR);
    }

    private void add() {
        addNeedsThreeArguments();
        addNeedsTwoNumbers();
        addSumsModuloTen();
        addSumsSets();
        addAppliesTheThird();
    }

    private void addNeedsThreeArguments() {
        due.terms("19", "ADD to three arguments");
        checkResults("add of none", Programs.oneCall(ADD), 0);
        checkResults("add of one", Programs.oneCall(ADD, 1), 0);
        checkResults("add of two", Programs.oneCall(ADD, 1, HALT), 0);
        checkResults("add of three", Programs.oneCall(ADD, 1, 2, HALT), 1 << 3);
        ClosureFlows flows = Programs.oneCall(ADD, 1, 2, HALT);
        flows.analyse(0);
        flows.clear();
        Programs.call(flows, 0, ADD, 1, 2);
        checkResults("add of two where three were before", flows, 0);
    }

    private void addNeedsTwoNumbers() {
        due.terms("15, 19", "if the first two sets both have a number");
        for (int other : new int[] {HALT, ADD, IFZERO, 201}) {
            ClosureFlows first = Programs.withLambdas(0, 1);
            Programs.call(first, 0, ADD, other, 2, 201);
            ClosureFlows second = Programs.withLambdas(0, 1);
            Programs.call(second, 0, ADD, 2, other, 201);
            for (int k = 0; k <= 1; k++) {
                due.is("analyse(" + k + "), add of " + other + " and 2", first.analyse(k), 1);
                due.is("flow(0), add of " + other + " and 2", first.flow(0), 0);
                due.is("analyse(" + k + "), add of 2 and " + other, second.analyse(k), 1);
                due.is("flow(0), add of 2 and " + other, second.flow(0), 0);
            }
        }
        ClosureFlows others = mixed(9, 1, HALT, 204);
        Programs.call(others, 4, ADD, 140, 141, HALT);
        due.is("analyse(0)", others.analyse(0), 5);
        due.is("results() of sets with a number and others", others.results(), 1);
        due.is("analyse(1)", others.analyse(1), 6);
        due.is("results() of sets without a number", others.results(), 0);
    }

    private void addSumsModuloTen() {
        due.terms("17", "all numbers that are the sum modulo 10");
        for (int first = 0; first < 10; first++) {
            for (int second = 0; second < 10; second++) {
                ClosureFlows flows = Programs.withLambdas(0, 1);
                Programs.call(flows, 0, ADD, first, second, 201);
                int sum = first + second < 10 ? first + second : first + second - 10;
                due.is("analyse(1) of " + first + " + " + second, flows.analyse(1), 2);
                due.is("constants(1, 0) of " + first + " + " + second, flows.constants(1, 0), 1 << sum);
                due.is("closures(1, 0) of " + first + " + " + second, flows.closures(1, 0), 0);
            }
        }
    }

    private void addSumsSets() {
        due.terms("17", "the one set of all numbers that are the sum .. of a number of the first and .. the second");
        ClosureFlows flows = mixed(9, 1, 4, 3);
        Programs.call(flows, 4, ADD, 140, 141, 205);
        Programs.call(flows, 5, HALT, 150);
        int sums = 1 | 1 << 2 | 1 << 5 | 1 << 7;
        due.is("analyse(0)", flows.analyse(0), 6);
        due.is("constants(5, 0), k = 0", flows.constants(5, 0), sums);
        due.is("results(), k = 0", flows.results(), sums);
        due.is("analyse(1)", flows.analyse(1), 7);
        due.is("constants(5, 0), k = 1", flows.constants(5, 0), 1 << 7);
        due.is("results(), k = 1", flows.results(), 1 << 7);
        ClosureFlows counting = counting();
        due.is("analyse(0) of counting", counting.analyse(0), 3);
        due.is("constants(1, 0) of counting", counting.constants(1, 0), 1023);
    }

    /** Lambda 1 adds 1 to its parameter, and lambda 2 calls lambda 1 with the sum. */
    private static ClosureFlows counting() {
        ClosureFlows flows = Programs.withLambdas(0, 2, 1, 1);
        Programs.call(flows, 0, 201, 3, 201);
        Programs.call(flows, 1, ADD, 110, 1, 202);
        Programs.call(flows, 2, 111, 120, 111);
        return flows;
    }

    private void addAppliesTheThird() {
        due.terms("15, 19", "every abstract value of the third set is applied to the one set");
        for (int params = 0; params <= 3; params++) {
            ClosureFlows flows = Programs.withLambdas(0, params);
            Programs.call(flows, 0, ADD, 1, 2, 201);
            due.is("analyse(0), add to a closure of " + params, flows.analyse(0), params == 1 ? 2 : 1);
            due.is("flow(0), add to a closure of " + params, flows.flow(0), params == 1 ? 2 : 0);
        }
        ClosureFlows both = addingToTwo();
        for (int k = 0; k <= 1; k++) {
            due.is("analyse(" + k + ")", both.analyse(k), 4 + k);
            due.is("flow(1), add to a closure or halt", both.flow(1), 1 << 3);
            due.is("constants(3, 0), add to a closure or halt", both.constants(3, 0), 1 << 7);
            due.is("results(), add to a closure or halt", both.results(), 1 << 7);
        }
    }

    /** Lambda 1 has ADD apply its parameter, which is lambda 3 when lambda 2 calls it and HALT when lambda 3 does. */
    private static ClosureFlows addingToTwo() {
        ClosureFlows flows = Programs.withLambdas(0, 2, 0, 1, 2, 1);
        Programs.call(flows, 0, 202, 201);
        Programs.call(flows, 1, ADD, 3, 4, 110);
        Programs.call(flows, 2, 120, 203, 120);
        Programs.call(flows, 3, 120, HALT, 120);
        return flows;
    }

    private void ifzero() {
        ifzeroNeedsThreeArguments();
        ifzeroOfOneNumber();
        ifzeroOfSets();
        ifzeroGivesNoArguments();
    }

    private void ifzeroNeedsThreeArguments() {
        due.terms("14, 15", "IFZERO to three arguments");
        for (int arguments = 0; arguments <= 3; arguments++) {
            ClosureFlows flows = Programs.withLambdas(0, 0);
            int[] atoms = {IFZERO, 0, 201, 201};
            for (int i = 0; i <= arguments; i++) {
                Programs.call(flows, 0, atoms[i]);
            }
            due.is("analyse(0), ifzero of " + arguments, flows.analyse(0), arguments == 3 ? 2 : 1);
            due.is("flow(0), ifzero of " + arguments, flows.flow(0), arguments == 3 ? 2 : 0);
        }
    }

    private void ifzeroOfOneNumber() {
        due.terms("15, 16", "if the first set has 0 .. if the first set has a number that is not 0");
        for (int first : new int[] {0, 1, 2, 3, 4, 5, 6, 7, 8, 9, HALT, ADD, IFZERO}) {
            ClosureFlows flows = Programs.withLambdas(0, 0, 0, 0);
            Programs.call(flows, 0, IFZERO, first, 201, 202);
            int chosen = first == 0 ? 2 : first <= 9 ? 4 : 0;
            for (int k = 0; k <= 1; k++) {
                due.is("analyse(" + k + "), ifzero of " + first, flows.analyse(k), chosen == 0 ? 1 : 2);
                due.is("flow(0), ifzero of " + first, flows.flow(0), chosen);
                due.is("contours(1), ifzero of " + first, flows.contours(1), first == 0 ? 1 : 0);
                due.is("contours(2), ifzero of " + first, flows.contours(2), chosen == 4 ? 1 : 0);
            }
        }
        ClosureFlows pair = Programs.withLambdas(0, 0);
        Programs.call(pair, 0, IFZERO, 201, 201, 201);
        due.is("analyse(0), ifzero of a pair", pair.analyse(0), 1);
    }

    private void ifzeroOfSets() {
        due.terms("15, 19", "if the first set has 0 .. a number that is not 0 [both, one of them, neither]");
        int[] firsts = {0, 0, 3, HALT, 0, 5, 203};
        int[] thirds = {5, 0, 9, ADD, HALT, IFZERO, 0};
        int[] wants = {6, 2, 4, 0, 2, 4, 2};
        for (int i = 0; i < firsts.length; i++) {
            ClosureFlows flows = mixed(firsts[i], 0, thirds[i], 0);
            Programs.call(flows, 4, IFZERO, 140, 206, 207);
            Programs.call(flows, 6, HALT, 1);
            Programs.call(flows, 7, HALT, 2);
            due.is("analyse(0)", flows.analyse(0), 5 + Integer.bitCount(wants[i]));
            due.is("results() of ifzero of " + firsts[i] + " or " + thirds[i], flows.results(), wants[i]);
            due.is("flow(4) of ifzero of " + firsts[i] + " or " + thirds[i], flows.flow(4), wants[i] << 5);
        }
    }

    private void ifzeroGivesNoArguments() {
        due.terms("14", "of the second set is applied to no arguments .. every one of the third is");
        for (int number = 0; number < 2; number++) {
            for (int params = 0; params <= 3; params++) {
                ClosureFlows flows = Programs.withLambdas(0, params);
                Programs.call(flows, 0, IFZERO, number, number == 0 ? 201 : 5, number == 0 ? 5 : 201);
                String what = ", ifzero of " + number + " to a closure of " + params;
                due.is("analyse(0)" + what, flows.analyse(0), params == 0 ? 2 : 1);
            }
        }
    }

    private void otherApplications() {
        numbersAreNotApplied();
        primitivesAreNotAppliedByOthers();
        oneOfTheOperatorsIsNotApplied();
    }

    private void numbersAreNotApplied() {
        due.terms("14, 19", "Other applications do nothing [numbers]");
        int[][] calls = {{7}, {7, 7}, {7, 7, 7}, {7, 1, 2, HALT}, {ADD, 1, 2, 7}, {IFZERO, 0, 7, 7}, {IFZERO, 1, 7, 7}};
        for (int[] call : calls) {
            checkResults("a number in a call of " + call.length, Programs.oneCall(call), 0);
        }
    }

    private void primitivesAreNotAppliedByOthers() {
        due.terms("14, 19", "Other applications do nothing [primitives]");
        int[][] calls = {{ADD, 1, 2, ADD}, {ADD, 1, 2, IFZERO}, {IFZERO, 0, HALT, HALT}, {IFZERO, 1, HALT, HALT},
            {IFZERO, 0, ADD, IFZERO}, {IFZERO, 1, ADD, IFZERO}};
        for (int[] call : calls) {
            checkResults(call[0] + " to a primitive", Programs.oneCall(call), 0);
        }
    }

    /** Of the two abstract values in the operator's set one does something, and the other nothing. */
    private void oneOfTheOperatorsIsNotApplied() {
        due.terms("15, 19", "Every abstract value in the operator's set is applied");
        ClosureFlows primitives = mixed(ADD, 0, IFZERO, 0);
        Programs.call(primitives, 4, 140, 0, 206, 207);
        due.is("analyse(0)", primitives.analyse(0), 6);
        due.is("flow(4) of add or ifzero", primitives.flow(4), 1 << 6);
        ClosureFlows sums = mixed(ADD, HALT, IFZERO, 204);
        Programs.call(sums, 4, 140, 3, 4, 141);
        due.is("analyse(0)", sums.analyse(0), 5);
        due.is("results() of add or ifzero", sums.results(), 1 << 7);
        ClosureFlows halting = mixed(HALT, 0, 8, 0);
        Programs.call(halting, 4, 140, 5);
        due.is("analyse(0)", halting.analyse(0), 5);
        due.is("results() of halt or a number", halting.results(), 1 << 5);
        ClosureFlows pairs = mixed(203, 0, 204, 0);
        Programs.call(pairs, 4, 140, 8, 9);
        due.is("analyse(0)", pairs.analyse(0), 5);
        due.is("flow(4) of two pairs", pairs.flow(4), 1 << 3 | 1 << 4);
        due.is("constants(3, 0) of two pairs", pairs.constants(3, 0), 1 << 8);
        due.is("constants(3, 1) of two pairs", pairs.constants(3, 1), 1 | 1 << 9);
        due.is("analyse(1)", pairs.analyse(1), 7);
        due.is("flow(4) of one pair", pairs.flow(4), 1 << 4);
    }

    private static int[] andFar(int... near) {
        int[] all = new int[near.length + FAR.length];
        System.arraycopy(near, 0, all, 0, near.length);
        System.arraycopy(FAR, 0, all, near.length, FAR.length);
        return all;
    }

    private void flow() {
        flowTellsLambdas();
        flowWithoutAnalysis();
        flowOfNoLambda();
    }

    private void flowTellsLambdas() {
        due.promise("15", "The set of lambdas that may be called at a lambda");
        ClosureFlows flows = mixed(1, 0, 2, 0);
        int[] sets = {1 << 2, 1 << 3 | 1 << 4, 1 << 1, 1 << 1, 0, 0, 0, 0};
        for (int k = 0; k <= 1; k++) {
            due.is("analyse(" + k + ")", flows.analyse(k), 5 + k);
            for (int lambda = 0; lambda < 8; lambda++) {
                due.is("flow(" + lambda + "), k = " + k, flows.flow(lambda), sets[lambda]);
            }
        }
        ClosureFlows high = chain(8);
        due.is("analyse(1)", high.analyse(1), 8);
        due.is("flow(6), the highest lambda", high.flow(6), 1 << 7);
        due.is("flow(7), an empty call", high.flow(7), 0);
    }

    private void flowWithoutAnalysis() {
        due.promise("15", "-1 when there is no analysis");
        for (int state = 0; state <= 4; state++) {
            due.is("flow(0) in state " + state, Programs.inState(state).flow(0), -1);
            due.is("flow(1) in state " + state, Programs.inState(state).flow(1), -1);
        }
    }

    private void flowOfNoLambda() {
        due.promise("15", "-1 when .. no such lambda");
        ClosureFlows flows = Programs.endless();
        due.is("analyse(1)", flows.analyse(1), 3);
        for (int lambda : andFar(-1, 2, 7, 8, 9)) {
            due.is("flow(" + lambda + ")", flows.flow(lambda), -1);
        }
    }

    private void contours() {
        contoursTellStates();
        contourSeven();
        contoursWithoutAnalysis();
        contoursOfNoLambda();
    }

    private void contoursTellStates() {
        due.promise("16", "The set of contours c for which (lambda, c) is a state");
        ClosureFlows flows = mixed(1, 0, 2, 0);
        int[] sets = {1, 1 << 2 | 1 << 3, 1, 1 << 1, 1 << 1, 0, 0, 0};
        due.is("analyse(1)", flows.analyse(1), 6);
        for (int lambda = 0; lambda < 8; lambda++) {
            due.is("contours(" + lambda + "), k = 1", flows.contours(lambda), sets[lambda]);
        }
        due.is("analyse(0)", flows.analyse(0), 5);
        for (int lambda = 0; lambda < 8; lambda++) {
            due.is("contours(" + lambda + "), k = 0", flows.contours(lambda), lambda < 5 ? 1 : 0);
        }
    }

    /** Lambda 7 calls itself with itself and so is a state at the highest contour; its parameter is seen there. */
    private void contourSeven() {
        due.terms("16, 17, 18", "A CONTOUR is a number 0 .. 7");
        ClosureFlows flows = Programs.withLambdas(0, 0, 0, 0, 0, 0, 0, 0, 0, 0, 0, 0, 0, 3);
        Programs.call(flows, 0, 207, 207, 1, 1);
        Programs.call(flows, 7, 170, 170, 9, 170);
        due.is("analyse(1)", flows.analyse(1), 3);
        due.is("contours(7)", flows.contours(7), 1 | 1 << 7);
        due.is("flow(7)", flows.flow(7), 1 << 7);
        due.is("constants(7, 1)", flows.constants(7, 1), 1 << 1 | 1 << 9);
        due.is("constants(7, 2)", flows.constants(7, 2), 1 << 1);
        due.is("closures(7, 0)", flows.closures(7, 0), 1 << 7);
        due.is("closures(7, 2)", flows.closures(7, 2), 1 << 7);
        due.is("analyse(0)", flows.analyse(0), 2);
        due.is("contours(7), k = 0", flows.contours(7), 1);
    }

    private void contoursWithoutAnalysis() {
        due.promise("16", "-1 when there is no analysis");
        for (int state = 0; state <= 4; state++) {
            due.is("contours(0) in state " + state, Programs.inState(state).contours(0), -1);
            due.is("contours(1) in state " + state, Programs.inState(state).contours(1), -1);
        }
    }

    private void contoursOfNoLambda() {
        due.promise("16", "-1 when .. no such lambda");
        ClosureFlows flows = Programs.endless();
        due.is("analyse(1)", flows.analyse(1), 3);
        for (int lambda : andFar(-1, 2, 7, 8, 9)) {
            due.is("contours(" + lambda + ")", flows.contours(lambda), -1);
        }
    }

    private void constants() {
        constantsOfAllContours();
        constantsHaveTheirBits();
        constantsTellNoPairs();
        constantsWithoutAnalysis();
        constantsOfNoParameter();
    }

    private void constantsOfAllContours() {
        due.promise("17", "of all contours c together");
        ClosureFlows flows = mixed(1, HALT, 2, IFZERO);
        due.is("analyse(1)", flows.analyse(1), 6);
        due.is("constants(1, 0)", flows.constants(1, 0), 1 << 1 | 1 << 2);
        due.is("constants(1, 1)", flows.constants(1, 1), HALT_BIT | IFZERO_BIT);
    }

    private void constantsHaveTheirBits() {
        due.terms("17", "bit n for number n, bits 10, 11, 12 for HALT, ADD, IFZERO");
        int[][] atoms = {{0, 1, 9}, {HALT, ADD, IFZERO}};
        int[][] sets = {{1, 2, 512}, {1024, 2048, 4096}};
        for (int turn = 0; turn < 2; turn++) {
            ClosureFlows flows = Programs.withLambdas(0, 3);
            Programs.call(flows, 0, 201);
            Programs.call(flows, 0, atoms[turn]);
            due.is("analyse(0)", flows.analyse(0), 2);
            for (int i = 0; i < 3; i++) {
                due.is("constants(1, " + i + ") of " + atoms[turn][i], flows.constants(1, i), sets[turn][i]);
            }
        }
    }

    private void constantsTellNoPairs() {
        due.promise("17", "The set of numbers and primitives [and no pairs]");
        ClosureFlows flows = mixed(203, 0, 7, 0);
        due.is("analyse(0)", flows.analyse(0), 5);
        due.is("constants(1, 0), a pair or a number", flows.constants(1, 0), 1 << 7);
        due.is("constants(1, 2), pairs alone", flows.constants(1, 2), 0);
    }

    private void constantsWithoutAnalysis() {
        due.promise("17", "-1 when there is no analysis");
        for (int state = 0; state <= 4; state++) {
            due.is("constants(1, 0) in state " + state, Programs.inState(state).constants(1, 0), -1);
        }
    }

    /** The parameters of lambdas 1 to 4 all hold something, so a place outside those of one would be one of another. */
    private static ClosureFlows neighbours() {
        ClosureFlows flows = Programs.withLambdas(0, 3, 1, 3, 2, 3, 0, 2, 4, 1);
        Programs.call(flows, 0, 204, 201, 8);
        Programs.call(flows, 4, 140, 141, 141, 141);
        Programs.call(flows, 1, 202, 110, 111, 112);
        Programs.call(flows, 2, 203, 110, 111, 112);
        return flows;
    }

    private void constantsOfNoParameter() {
        due.promise("17", "-1 when .. no such parameter");
        ClosureFlows flows = neighbours();
        due.is("analyse(0)", flows.analyse(0), 5);
        int[] params = {0, 3, 3, 3, 2};
        for (int lambda = 0; lambda < params.length; lambda++) {
            for (int i : andFar(-1, 0, 1, 2, 3, 4, 10)) {
                boolean there = i >= 0 && i < params[lambda];
                due.is("constants(" + lambda + ", " + i + ") is there", flows.constants(lambda, i) != -1, there);
            }
        }
        for (int lambda : andFar(-1, 6, 7, 8, 9, 10)) {
            due.is("constants(" + lambda + ", 0)", flows.constants(lambda, 0), -1);
        }
        due.is("constants(1, 2)", flows.constants(1, 2), 1 << 8);
        due.is("constants(5, 0), of a lambda that is no state", flows.constants(5, 0), 0);
    }

    private void closures() {
        closuresOfAllContours();
        closuresTellPairsAlone();
        closuresWithoutAnalysis();
        closuresOfNoParameter();
    }

    private void closuresOfAllContours() {
        due.promise("18", "of all contours c together");
        ClosureFlows flows = mixed(1, 0, 2, 0);
        due.is("analyse(1)", flows.analyse(1), 6);
        due.is("closures(1, 2)", flows.closures(1, 2), 1 << 3 | 1 << 4);
    }

    private void closuresTellPairsAlone() {
        due.promise("18", "The set of lambdas of the pairs [and no numbers or primitives]");
        ClosureFlows flows = mixed(203, 0, 7, HALT);
        due.is("analyse(0)", flows.analyse(0), 5);
        due.is("closures(1, 0), a pair or a number", flows.closures(1, 0), 1 << 3);
        due.is("closures(1, 1), a number or a primitive", flows.closures(1, 1), 0);
    }

    private void closuresWithoutAnalysis() {
        due.promise("18", "-1 when there is no analysis");
        for (int state = 0; state <= 4; state++) {
            due.is("closures(1, 0) in state " + state, Programs.inState(state).closures(1, 0), -1);
        }
    }

    private void closuresOfNoParameter() {
        due.promise("18", "-1 when .. no such parameter");
        ClosureFlows flows = neighbours();
        due.is("analyse(0)", flows.analyse(0), 5);
        int[] params = {0, 3, 3, 3, 2};
        for (int lambda = 0; lambda < params.length; lambda++) {
            for (int i : andFar(-1, 0, 1, 2, 3, 4, 10)) {
                boolean there = i >= 0 && i < params[lambda];
                due.is("closures(" + lambda + ", " + i + ") is there", flows.closures(lambda, i) != -1, there);
            }
        }
        for (int lambda : andFar(-1, 6, 7, 8, 9, 10)) {
            due.is("closures(" + lambda + ", 0)", flows.closures(lambda, 0), -1);
        }
        due.is("closures(4, 0)", flows.closures(4, 0), 1 << 1);
        due.is("closures(5, 0), of a lambda that is no state", flows.closures(5, 0), 0);
    }

    private void results() {
        resultsTellConstants();
        resultsTellPairs();
        resultsWithoutAnalysis();
    }

    private void resultsTellConstants() {
        due.promise("19", "The set of numbers and primitives that may be the result");
        for (int number = 0; number < 10; number++) {
            checkResults("halt of " + number, Programs.oneCall(HALT, number), 1 << number);
        }
        checkResults("halt of halt", Programs.oneCall(HALT, HALT), HALT_BIT);
        checkResults("halt of add", Programs.oneCall(HALT, ADD), ADD_BIT);
        checkResults("halt of ifzero", Programs.oneCall(HALT, IFZERO), IFZERO_BIT);
        checkResults("no result", Programs.endless(), 0);
    }

    private void resultsTellPairs() {
        due.promise("19", "plus 8192 when a pair may be");
        ClosureFlows one = Programs.withLambdas(0, 1);
        Programs.call(one, 0, HALT, 201);
        checkResults("halt of a closure", one, PAIR);
        ClosureFlows two = mixed(203, 0, 204, 0);
        Programs.call(two, 4, HALT, 140);
        due.is("analyse(0)", two.analyse(0), 5);
        due.is("results() of two pairs", two.results(), PAIR);
    }

    private void resultsWithoutAnalysis() {
        due.promise("19", "-1 when there is no analysis");
        for (int state = 0; state <= 4; state++) {
            due.is("results() in state " + state, Programs.inState(state).results(), -1);
        }
    }
}
