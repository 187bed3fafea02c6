/** Writes programs for the tests. */
final class Programs {
    static final int HALT = 300;
    static final int ADD = 301;
    static final int IFZERO = 302;

    private Programs() {
    }

    static int parameter(int lambda, int i) {
        return 100 + 10 * lambda + i;
    }

    static int closure(int lambda) {
        return 200 + lambda;
    }

    static void call(ClosureFlows flows, int lambda, int... atoms) {
        for (int atom : atoms) {
            if (!flows.put(lambda, atom)) {
                throw new IllegalStateException("put(" + lambda + ", " + atom + ") was refused");
            }
        }
    }

    /** Makes lambdas 1, 2, .. from pairs of a parent and a number of parameters. */
    static ClosureFlows withLambdas(int... parentsAndParams) {
        ClosureFlows flows = new ClosureFlows();
        for (int i = 0; i < parentsAndParams.length; i += 2) {
            if (flows.lambda(parentsAndParams[i], parentsAndParams[i + 1]) != i / 2 + 1) {
                throw new IllegalStateException("lambda " + (i / 2 + 1) + " was refused");
            }
        }
        return flows;
    }

    /** Lambda 0 calls lambda 1 with 5, and lambda 1 halts with its parameter. */
    static ClosureFlows haltWithFive() {
        ClosureFlows flows = withLambdas(0, 1);
        call(flows, 0, closure(1), 5);
        call(flows, 1, HALT, parameter(1, 0));
        return flows;
    }

    /** Lambda 1 applies its parameter to itself for ever. */
    static ClosureFlows endless() {
        ClosureFlows flows = withLambdas(0, 1);
        call(flows, 0, closure(1), closure(1));
        call(flows, 1, parameter(1, 0), parameter(1, 0));
        return flows;
    }

    /** Lambda 0 makes one call of a primitive with the given arguments. */
    static ClosureFlows oneCall(int... atoms) {
        ClosureFlows flows = new ClosureFlows();
        call(flows, 0, atoms);
        return flows;
    }
}
