/** Writes programs for the tests. */
final class Programs {
    static final int HALT = 300;
    static final int ADD = 301;
    static final int IFZERO = 302;

    /** Far from every bound; cut to fewer bits, or multiplied to a place in a row, some of them are as small as 1. */
    static final int[] FAR = {Integer.MIN_VALUE, Integer.MIN_VALUE + 1, -1000, -255, 257, 1000, (1 << 29) + 1,
        (1 << 30) + 1, Integer.MAX_VALUE};

    private Programs() {
    }

    static void call(ClosureFlows flows, int lambda, int... atoms) {
        for (int atom : atoms) {
            if (!flows.put(lambda, atom)) {
                throw new IllegalStateException("put(" + lambda + ", " + atom + ") was refused");
            }
        }
    }

    /** Makes lambdas 1, 2, .. from pairs of a parent and a number of parameters. */
    static ClosureFlows withLambdas(int... parentsAndParams) {
        ClosureFlows flows = new ClosureFlows();
        for (int i = 0; i < parentsAndParams.length; i += 2) {
            if (flows.lambda(parentsAndParams[i], parentsAndParams[i + 1]) != i / 2 + 1) {
                throw new IllegalStateException("lambda " + (i / 2 + 1) + " was refused");
            }
        }
        return flows;
    }

    /** Lambda 0 makes one call, in which no lambda stands. */
    static ClosureFlows oneCall(int... atoms) {
        ClosureFlows flows = new ClosureFlows();
        call(flows, 0, atoms);
        return flows;
    }

    /** Lambda 0 calls lambda 1 with 5, and lambda 1 halts with its parameter. */
    static ClosureFlows haltWithFive() {
        ClosureFlows flows = withLambdas(0, 1);
        call(flows, 0, 201, 5);
        call(flows, 1, HALT, 110);
        return flows;
    }

    /** Lambda 0 calls lambda 1 with 5, and lambda 1 applies that number. */
    static ClosureFlows stuckWithFive() {
        ClosureFlows flows = withLambdas(0, 1);
        call(flows, 0, 201, 5);
        call(flows, 1, 110, 110);
        return flows;
    }

    /** Lambda 1 applies its parameter, which is lambda 1, to itself for ever. */
    static ClosureFlows endless() {
        ClosureFlows flows = withLambdas(0, 1);
        call(flows, 0, 201, 201);
        call(flows, 1, 110, 110);
        return flows;
    }

    /** One object for each thing that state() can tell, 0 to 4; lambda 1 has one parameter and its call two atoms. */
    static ClosureFlows inState(int state) {
        ClosureFlows flows = state == 4 ? endless() : state == 3 ? stuckWithFive() : haltWithFive();
        if (state > 0) {
            flows.start();
            flows.step(state == 1 ? 1 : 99);
        }
        if (flows.state() != state) {
            throw new IllegalStateException("state " + state + " was not reached");
        }
        return flows;
    }
}
