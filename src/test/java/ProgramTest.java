/** Promises 1 to 6, and what "Terms" says of programs; each test names the words that it belongs to. */
public final class ProgramTest {
    private static final int[] FAR = Programs.FAR;

    private final Due due = new Due("ProgramTest");

    public static void main(String[] args) {
        ProgramTest test = new ProgramTest();
        test.newObject();
        test.lambda();
        test.atoms();
        test.put();
        test.clear();
        test.lambdas();
        test.atom();
        test.changes();
        test.due.end();
    }

    private void newObject() {
        newObjectHasLambdaZeroAlone();
        newObjectHasAnEmptyCall();
        newObjectIsNotStarted();
        newObjectHasNoAnalysis();
    }

    private void newObjectHasLambdaZeroAlone() {
        due.promise("1", "Only lambda 0");
        ClosureFlows flows = new ClosureFlows();
        due.is("lambdas()", flows.lambdas(), 1);
        due.is("put(1, 0)", flows.put(1, 0), false);
        due.is("lambda(1, 0)", flows.lambda(1, 0), -1);
        due.is("put(0, 0)", flows.put(0, 0), true);
        due.is("lambda(0, 0)", flows.lambda(0, 0), 1);
    }

    private void newObjectHasAnEmptyCall() {
        due.promise("1", "with an empty call");
        ClosureFlows flows = new ClosureFlows();
        for (int i = 0; i < 4; i++) {
            due.is("atom(0, " + i + ")", flows.atom(0, i), -1);
        }
        for (int i = 0; i < 4; i++) {
            due.is("put(0, " + i + ")", flows.put(0, i), true);
        }
    }

    private void newObjectIsNotStarted() {
        due.promise("1", "the machine is not started");
        checkNotStarted("new", new ClosureFlows());
    }

    private void newObjectHasNoAnalysis() {
        due.promise("1", "there is no analysis");
        checkNotAnalysed("new", new ClosureFlows());
    }

    private void checkNotStarted(String when, ClosureFlows flows) {
        due.is(when + ": state()", flows.state(), 0);
        due.is(when + ": at()", flows.at(), -1);
        due.is(when + ": step(1)", flows.step(1), -1);
        due.is(when + ": result()", flows.result(), -1);
        due.is(when + ": called(0)", flows.called(0), -1);
        due.is(when + ": value(1, 0)", flows.value(1, 0), -1);
    }

    private void checkNotAnalysed(String when, ClosureFlows flows) {
        due.is(when + ": flow(0)", flows.flow(0), -1);
        due.is(when + ": contours(0)", flows.contours(0), -1);
        due.is(when + ": constants(1, 0)", flows.constants(1, 0), -1);
        due.is(when + ": closures(1, 0)", flows.closures(1, 0), -1);
        due.is(when + ": results()", flows.results(), -1);
    }

    private void lambda() {
        lambdaAnswersNumbers();
        lambdaTakesEveryOlderParent();
        lambdaRefusesUnknownParents();
        lambdaTakesUpToThreeParams();
        lambdaRefusesOtherParams();
        lambdaRefusesTheNinth();
        lambdasAreAtMostEight();
        lambdaZeroHasNoParameters();
        lambdaZeroHasNoParent();
    }

    private void lambdaAnswersNumbers() {
        due.promise("2", "Makes a lambda and answers its number");
        ClosureFlows flows = new ClosureFlows();
        for (int number = 1; number < 8; number++) {
            due.is("lambda(0, 1)", flows.lambda(0, 1), number);
            due.is("put(" + number + ", " + parameter(number, 0) + ")", flows.put(number, parameter(number, 0)), true);
        }
    }

    private void lambdaTakesEveryOlderParent() {
        due.terms("2", "Every other lambda has an older one as its parent");
        for (int there = 1; there < 8; there++) {
            for (int parent = 0; parent < there; parent++) {
                ClosureFlows flows = withChildrenOfZero(there - 1);
                due.is("lambda(" + parent + ", 0) of " + there, flows.lambda(parent, 0), there);
            }
            ClosureFlows flows = withChildrenOfZero(there - 1);
            due.is("lambda(" + there + ", 0), its own parent", flows.lambda(there, 0), -1);
            due.is("lambda(" + (there + 1) + ", 0), a newer one", flows.lambda(there + 1, 0), -1);
        }
    }

    private static ClosureFlows withChildrenOfZero(int children) {
        ClosureFlows flows = new ClosureFlows();
        for (int i = 0; i < children; i++) {
            flows.lambda(0, 1);
        }
        return flows;
    }

    private void lambdaRefusesUnknownParents() {
        due.promise("2", "-1 when there is no lambda parent");
        ClosureFlows flows = withChildrenOfZero(2);
        due.is("lambda(-1, 0)", flows.lambda(-1, 0), -1);
        due.is("lambda(3, 0)", flows.lambda(3, 0), -1);
        due.is("lambda(7, 0)", flows.lambda(7, 0), -1);
        due.is("lambda(8, 0)", flows.lambda(8, 0), -1);
        due.is("lambda(9, 0)", flows.lambda(9, 0), -1);
        for (int far : FAR) {
            due.is("lambda(" + far + ", 0)", flows.lambda(far, 0), -1);
        }
        due.is("lambda(2, 0), the youngest", flows.lambda(2, 0), 3);
        flows.clear();
        due.is("lambda(1, 0), which was cleared", flows.lambda(1, 0), -1);
    }

    private void lambdaTakesUpToThreeParams() {
        due.terms("2", "and 0 to 3 PARAMETERS");
        for (int params = 0; params <= 3; params++) {
            ClosureFlows flows = new ClosureFlows();
            due.is("lambda(0, " + params + ")", flows.lambda(0, params), 1);
            for (int i = 0; i < 3; i++) {
                due.is("put(1, " + (110 + i) + ") of " + params, flows.put(1, 110 + i), i < params);
            }
        }
    }

    private void lambdaRefusesOtherParams() {
        due.promise("2", "-1 when .. params is not 0 .. 3");
        ClosureFlows flows = new ClosureFlows();
        due.is("lambda(0, -1)", flows.lambda(0, -1), -1);
        due.is("lambda(0, 4)", flows.lambda(0, 4), -1);
        for (int far : FAR) {
            due.is("lambda(0, " + far + ")", flows.lambda(0, far), -1);
        }
        due.is("lambda(0, 0)", flows.lambda(0, 0), 1);
        due.is("lambda(0, 3)", flows.lambda(0, 3), 2);
    }

    private void lambdaRefusesTheNinth() {
        due.promise("2", "-1 when .. 8 are there");
        ClosureFlows flows = withChildrenOfZero(6);
        due.is("lambda(0, 0), the eighth", flows.lambda(0, 0), 7);
        for (int parent = 0; parent <= 8; parent++) {
            due.is("lambda(" + parent + ", 0), the ninth", flows.lambda(parent, 0), -1);
        }
        flows.clear();
        for (int number = 1; number < 8; number++) {
            due.is("lambda(0, 0) when cleared", flows.lambda(0, 0), number);
        }
        due.is("lambda(0, 0) when full again", flows.lambda(0, 0), -1);
    }

    private void lambdasAreAtMostEight() {
        due.terms("2, 5", "A PROGRAM has LAMBDAS 0, 1, .., at most 8");
        ClosureFlows flows = withChildrenOfZero(20);
        due.is("lambdas() after 20 tries", flows.lambdas(), 8);
        for (int lambda = 0; lambda < 8; lambda++) {
            due.is("put(" + lambda + ", " + lambda + ")", flows.put(lambda, lambda), true);
        }
        for (int lambda = 0; lambda < 8; lambda++) {
            due.is("atom(" + lambda + ", 0), a call of its own", flows.atom(lambda, 0), lambda);
        }
    }

    private void lambdaZeroHasNoParameters() {
        due.terms("1, 4", "Lambda 0 is there always; it has no parameters");
        ClosureFlows flows = Programs.withLambdas(0, 3);
        for (int round = 0; round < 2; round++) {
            flows.start();
            flows.analyse(0);
            for (int i = 0; i < 3; i++) {
                due.is("value(0, " + i + ")", flows.value(0, i), -1);
                due.is("constants(0, " + i + ")", flows.constants(0, i), -1);
                due.is("closures(0, " + i + ")", flows.closures(0, i), -1);
                due.is("put(0, " + (100 + i) + ")", flows.put(0, 100 + i), false);
                due.is("put(1, " + (100 + i) + ")", flows.put(1, 100 + i), false);
            }
            flows.clear();
            due.is("put(0, 9), which is there", flows.put(0, 9), true);
        }
    }

    private void lambdaZeroHasNoParent() {
        due.terms("3", "and no PARENT");
        ClosureFlows flows = Programs.withLambdas(0, 0, 1, 0, 2, 0, 3, 0, 4, 0, 5, 0, 6, 0);
        for (int lambda = 0; lambda < 8; lambda++) {
            due.is("put(" + lambda + ", 200)", flows.put(lambda, 200), false);
        }
    }

    private void atoms() {
        atomsThatAreNumbersOrPrimitives();
        atomsThatAreParameters();
        atomsThatAreLambdas();
        parametersOfAncestorsStand();
        parametersOfOthersDoNot();
        childrenStand();
        numbersAndPrimitivesStandEverywhere();
    }

    private void atomsThatAreNumbersOrPrimitives() {
        due.terms("3", "0 .. 9 are NUMBERS .. 300 is HALT, 301 ADD, 302 IFZERO");
        for (int atom = -300; atom <= 1400; atom++) {
            boolean may = atom >= 0 && atom <= 9 || atom >= 300 && atom <= 302;
            due.is("put(0, " + atom + ")", new ClosureFlows().put(0, atom), may);
        }
        for (int far : FAR) {
            due.is("put(0, " + far + ")", new ClosureFlows().put(0, far), false);
        }
    }

    private static int parameter(int lambda, int i) {
        return 100 + 10 * lambda + i;
    }

    /** Every lambda is in the one before it, so that the last one sees all parameters. */
    private static ClosureFlows chainOfEight() {
        return Programs.withLambdas(0, 3, 1, 3, 2, 3, 3, 3, 4, 3, 5, 3, 6, 3);
    }

    private void atomsThatAreParameters() {
        due.terms("3", "100 + 10 * l + i is parameter i (0, 1, 2) of lambda l");
        for (int atom = 90; atom < 200; atom++) {
            boolean may = atom >= 110 && atom < 180 && atom % 10 < 3;
            due.is("put(7, " + atom + ")", chainOfEight().put(7, atom), may);
        }
    }

    private void atomsThatAreLambdas() {
        due.terms("3", "200 + l is lambda l");
        for (int atom = 190; atom < 300; atom++) {
            due.is("put(0, " + atom + ")", withChildrenOfZero(7).put(0, atom), atom >= 201 && atom <= 207);
        }
    }

    private void parametersOfAncestorsStand() {
        due.terms("3", "The ANCESTORS of a lambda are its parent and the ancestors of its parent");
        for (int lambda = 0; lambda < 8; lambda++) {
            for (int other = 0; other < 8; other++) {
                int atom = parameter(other, 2);
                boolean may = other >= 1 && other <= lambda;
                due.is("put(" + lambda + ", " + atom + ")", chainOfEight().put(lambda, atom), may);
            }
        }
    }

    /** Lambda 1 has three parameters, 2 one and 3 none; 4 is no kin of 2 and 3. */
    private static ClosureFlows family() {
        return Programs.withLambdas(0, 3, 1, 1, 2, 0, 1, 2);
    }

    private void parametersOfOthersDoNot() {
        due.terms("3", "In the call of lambda m the parameters of m and of its ancestors may stand");
        int[][] visible = {{}, {110, 111, 112}, {110, 111, 112, 120}, {110, 111, 112, 120}, {110, 111, 112, 140, 141}};
        for (int lambda = 0; lambda < visible.length; lambda++) {
            for (int atom = 100; atom < 200; atom++) {
                due.is("put(" + lambda + ", " + atom + ")", family().put(lambda, atom), has(visible[lambda], atom));
            }
        }
    }

    private void childrenStand() {
        due.terms("3", "the lambdas whose parent is m");
        int[][] children = {{201}, {202, 204}, {203}, {}, {}};
        for (int lambda = 0; lambda < children.length; lambda++) {
            for (int atom = 200; atom < 208; atom++) {
                due.is("put(" + lambda + ", " + atom + ")", family().put(lambda, atom), has(children[lambda], atom));
            }
        }
    }

    private static boolean has(int[] atoms, int atom) {
        for (int one : atoms) {
            if (one == atom) {
                return true;
            }
        }
        return false;
    }

    private void numbersAndPrimitivesStandEverywhere() {
        due.terms("3", "all numbers and all primitives");
        int[] atoms = {0, 1, 2, 3, 4, 5, 6, 7, 8, 9, 300, 301, 302};
        for (int lambda = 0; lambda < 5; lambda++) {
            for (int atom : atoms) {
                ClosureFlows flows = family();
                for (int i = 0; i < 4; i++) {
                    due.is("put(" + lambda + ", " + atom + ") at " + i, flows.put(lambda, atom), true);
                }
            }
        }
    }

    private void put() {
        putAppends();
        putRefusesUnknownLambdas();
        putRefusesTheFifthAtom();
        putRefusesWhatMayNotStand();
        putRefusesParametersThatAreNotThere();
        putRefusesLambdasThatAreNotThere();
        callHasAtMostFourAtoms();
        callIsEmptyAtFirst();
    }

    private void putAppends() {
        due.promise("3", "Appends an atom to the call of a lambda, and true");
        ClosureFlows flows = family();
        int[] atoms = {203, 120, 112, 0};
        for (int length = 0; length < 4; length++) {
            due.is("put(2, " + atoms[length] + ")", flows.put(2, atoms[length]), true);
            for (int i = 0; i < 4; i++) {
                due.is("atom(2, " + i + ")", flows.atom(2, i), i <= length ? atoms[i] : -1);
            }
            due.is("atom(1, 0)", flows.atom(1, 0), -1);
            due.is("atom(3, 0)", flows.atom(3, 0), -1);
        }
    }

    private void putRefusesUnknownLambdas() {
        due.promise("3", "false when there is no such lambda");
        ClosureFlows flows = family();
        due.is("put(-1, 0)", flows.put(-1, 0), false);
        due.is("put(5, 0)", flows.put(5, 0), false);
        due.is("put(7, 0)", flows.put(7, 0), false);
        due.is("put(8, 0)", flows.put(8, 0), false);
        due.is("put(9, 0)", flows.put(9, 0), false);
        for (int far : FAR) {
            due.is("put(" + far + ", 0)", flows.put(far, 0), false);
        }
        due.is("put(4, 0)", flows.put(4, 0), true);
        ClosureFlows full = chainOfEight();
        due.is("put(8, 0) when 8 are there", full.put(8, 0), false);
        due.is("put(7, 0) when 8 are there", full.put(7, 0), true);
    }

    private void putRefusesTheFifthAtom() {
        due.promise("3", "false when .. its call has four atoms");
        for (int lambda = 0; lambda < 8; lambda++) {
            ClosureFlows flows = chainOfEight();
            Programs.call(flows, lambda, 1, 2, 3, 4);
            due.is("put(" + lambda + ", 5), the fifth", flows.put(lambda, 5), false);
            due.is("put(" + lambda + ", 300), the fifth", flows.put(lambda, 300), false);
            due.is("atom(" + lambda + ", 3)", flows.atom(lambda, 3), 4);
            due.is("atom(" + lambda + ", 4)", flows.atom(lambda, 4), -1);
            due.is("atom of the next lambda", flows.atom((lambda + 1) % 8, 0), -1);
        }
    }

    private void putRefusesWhatMayNotStand() {
        due.promise("3", "false when .. the atom may not stand there");
        ClosureFlows flows = family();
        int[][] refused = {{110, 120, 200, 202, -1, 10}, {120, 140, 201, 203, 299, 303}, {140, 201, 202, 204, 99, 180},
            {140, 201, 202, 203, 199, 208}, {120, 201, 202, 204, 113, 119}};
        for (int lambda = 0; lambda < refused.length; lambda++) {
            for (int atom : refused[lambda]) {
                due.is("put(" + lambda + ", " + atom + ")", flows.put(lambda, atom), false);
            }
            due.is("atom(" + lambda + ", 0)", flows.atom(lambda, 0), -1);
        }
    }

    private void putRefusesParametersThatAreNotThere() {
        due.promise("3", "what it names must be there [parameters]");
        for (int params = 0; params <= 3; params++) {
            ClosureFlows flows = Programs.withLambdas(0, params, 1, 0);
            for (int i = 0; i < 10; i++) {
                boolean there = i < params;
                due.is("put(1, " + (110 + i) + ") of " + params, flows.put(1, 110 + i), there);
                due.is("put(2, " + (110 + i) + ") of " + params, flows.put(2, 110 + i), there);
            }
        }
        ClosureFlows flows = Programs.withLambdas(0, 3);
        flows.clear();
        due.is("put(0, 110) when cleared", flows.put(0, 110), false);
        due.is("lambda(0, 1)", flows.lambda(0, 1), 1);
        due.is("put(1, 110)", flows.put(1, 110), true);
        due.is("put(1, 111) of the lambda before", flows.put(1, 111), false);
    }

    private void putRefusesLambdasThatAreNotThere() {
        due.promise("3", "what it names must be there [lambdas]");
        ClosureFlows flows = new ClosureFlows();
        for (int lambda = 1; lambda < 8; lambda++) {
            due.is("put(0, " + (200 + lambda) + ") too early", flows.put(0, 200 + lambda), false);
        }
        due.is("lambda(0, 0)", flows.lambda(0, 0), 1);
        due.is("put(0, 201)", flows.put(0, 201), true);
        due.is("put(0, 202)", flows.put(0, 202), false);
        due.is("put(1, 202)", flows.put(1, 202), false);
        flows.clear();
        due.is("put(0, 201) when cleared", flows.put(0, 201), false);
    }

    private void callHasAtMostFourAtoms() {
        due.terms("3", "a list of at most four ATOMS: the OPERATOR and up to three ARGUMENTS");
        ClosureFlows flows = new ClosureFlows();
        for (int tries = 1; tries <= 8; tries++) {
            due.is("put(0, " + tries + ")", flows.put(0, tries), tries <= 4);
        }
        for (int i = 0; i < 8; i++) {
            due.is("atom(0, " + i + ")", flows.atom(0, i), i < 4 ? i + 1 : -1);
        }
    }

    private void callIsEmptyAtFirst() {
        due.terms("2, 3", "(at first it is empty)");
        ClosureFlows flows = new ClosureFlows();
        for (int round = 0; round < 3; round++) {
            for (int lambda = 0; lambda < 8; lambda++) {
                if (lambda > 0) {
                    due.is("lambda(0, 0)", flows.lambda(0, 0), lambda);
                }
                due.is("atom(" + lambda + ", 0)", flows.atom(lambda, 0), -1);
                Programs.call(flows, lambda, 1, 2, 3, 4);
            }
            flows.clear();
        }
    }

    private void clear() {
        clearLeavesLambdaZeroAlone();
        clearEmptiesTheCall();
        clearLeavesNoKinship();
    }

    private void clearLeavesLambdaZeroAlone() {
        due.promise("4", "Only lambda 0 is left");
        ClosureFlows flows = chainOfEight();
        for (int round = 0; round < 2; round++) {
            flows.clear();
            due.is("lambdas()", flows.lambdas(), 1);
            for (int lambda = 1; lambda < 8; lambda++) {
                due.is("put(" + lambda + ", 0)", flows.put(lambda, 0), false);
                due.is("lambda(" + lambda + ", 0)", flows.lambda(lambda, 0), -1);
                due.is("put(0, " + (200 + lambda) + ")", flows.put(0, 200 + lambda), false);
            }
            due.is("put(0, 0)", flows.put(0, 0), true);
        }
    }

    private void clearEmptiesTheCall() {
        due.promise("4", "with an empty call");
        ClosureFlows flows = new ClosureFlows();
        for (int length = 0; length <= 4; length++) {
            for (int i = 0; i < length; i++) {
                due.is("put(0, 9)", flows.put(0, 9), true);
            }
            flows.clear();
            for (int i = 0; i < 4; i++) {
                due.is("atom(0, " + i + ") when " + length + " were cleared", flows.atom(0, i), -1);
            }
        }
        flows.start();
        due.is("step(5) of the empty call", flows.step(5), 1);
        due.is("state()", flows.state(), 3);
    }

    private void clearLeavesNoKinship() {
        due.promise("4", "Only lambda 0 is left [nothing of the lambdas before]");
        ClosureFlows flows = Programs.withLambdas(0, 2, 1, 2);
        flows.clear();
        due.is("lambda(0, 2)", flows.lambda(0, 2), 1);
        due.is("lambda(0, 1)", flows.lambda(0, 1), 2);
        due.is("put(2, 110), no ancestor any more", flows.put(2, 110), false);
        due.is("put(1, 202), no child any more", flows.put(1, 202), false);
        due.is("put(2, 121), no parameter any more", flows.put(2, 121), false);
        due.is("put(0, 202)", flows.put(0, 202), true);
    }

    private void lambdas() {
        due.promise("5", "How many lambdas there are");
        ClosureFlows flows = new ClosureFlows();
        for (int there = 1; there <= 8; there++) {
            due.is("lambdas()", flows.lambdas(), there);
            flows.lambda(there, 0);
            flows.lambda(0, 4);
            due.is("lambdas() after refusals", flows.lambdas(), there);
            flows.lambda(0, 0);
        }
        due.is("lambdas() after the ninth", flows.lambdas(), 8);
        flows.clear();
        due.is("lambdas() when cleared", flows.lambdas(), 1);
    }

    private void atom() {
        atomTellsTheCall();
        atomOutsideTheCall();
        atomOfNoLambda();
    }

    /** Calls of different lengths, so that a place outside one call would be a place in the next. */
    private static ClosureFlows withCalls() {
        ClosureFlows flows = family();
        Programs.call(flows, 0, 201, 9, 8, 7);
        Programs.call(flows, 1, 0);
        Programs.call(flows, 2, 302, 120, 203, 112);
        Programs.call(flows, 3, 300, 301, 302, 1);
        return flows;
    }

    private void atomTellsTheCall() {
        due.promise("6", "Atom i (0 is the operator) of the call of a lambda");
        ClosureFlows flows = withCalls();
        int[][] calls = {{201, 9, 8, 7}, {0}, {302, 120, 203, 112}, {300, 301, 302, 1}};
        for (int lambda = 0; lambda < calls.length; lambda++) {
            for (int i = 0; i < calls[lambda].length; i++) {
                due.is("atom(" + lambda + ", " + i + ")", flows.atom(lambda, i), calls[lambda][i]);
            }
        }
    }

    private void atomOutsideTheCall() {
        due.promise("6", "-1 when there is none [no such atom]");
        ClosureFlows flows = withCalls();
        for (int lambda = 0; lambda < 5; lambda++) {
            due.is("atom(" + lambda + ", -1)", flows.atom(lambda, -1), -1);
            due.is("atom(" + lambda + ", 4)", flows.atom(lambda, 4), -1);
            for (int far : FAR) {
                due.is("atom(" + lambda + ", " + far + ")", flows.atom(lambda, far), -1);
            }
        }
        due.is("atom(1, 1) of a call of one", flows.atom(1, 1), -1);
        due.is("atom(4, 0) of an empty call", flows.atom(4, 0), -1);
    }

    private void atomOfNoLambda() {
        due.promise("6", "-1 when there is none [no such lambda]");
        ClosureFlows flows = withCalls();
        for (int lambda : new int[] {-1, 5, 7, 8, 9, 10}) {
            due.is("atom(" + lambda + ", 0)", flows.atom(lambda, 0), -1);
        }
        for (int far : FAR) {
            due.is("atom(" + far + ", 0)", flows.atom(far, 0), -1);
        }
        flows.clear();
        for (int lambda = 0; lambda < 5; lambda++) {
            due.is("atom(" + lambda + ", 0) when cleared", flows.atom(lambda, 0), -1);
        }
    }

    private void changes() {
        lambdaEndsRunAndAnalysis();
        putEndsRunAndAnalysis();
        clearEndsRunAndAnalysis();
        clearOfWhatIsClear();
    }

    private void lambdaEndsRunAndAnalysis() {
        due.terms("2", "When the program changes (by lambda ..)");
        for (int state = 0; state <= 4; state++) {
            ClosureFlows flows = analysedInState(state);
            due.is("lambda(1, 2)", flows.lambda(1, 2), 2);
            checkNoRuns("after lambda in state " + state, flows);
        }
    }

    private void putEndsRunAndAnalysis() {
        due.terms("3", "When the program changes (by .. put ..)");
        for (int state = 0; state <= 4; state++) {
            ClosureFlows flows = analysedInState(state);
            due.is("put(1, 5)", flows.put(1, 5), true);
            checkNoRuns("after put in state " + state, flows);
        }
    }

    private void clearEndsRunAndAnalysis() {
        due.terms("4", "When the program changes (by .. clear)");
        for (int state = 0; state <= 4; state++) {
            ClosureFlows flows = analysedInState(state);
            flows.clear();
            checkNoRuns("after clear in state " + state, flows);
        }
    }

    private ClosureFlows analysedInState(int state) {
        ClosureFlows flows = Programs.inState(state);
        due.is("analyse(0) in state " + state, flows.analyse(0), 2);
        return flows;
    }

    private void checkNoRuns(String when, ClosureFlows flows) {
        checkNotStarted(when, flows);
        checkNotAnalysed(when, flows);
    }

    private void clearOfWhatIsClear() {
        due.terms("4", "if they do what they say [clear does, of an empty program too]");
        ClosureFlows flows = new ClosureFlows();
        flows.start();
        due.is("analyse(0)", flows.analyse(0), 1);
        flows.clear();
        checkNoRuns("after clear of what was clear", flows);
    }
}
