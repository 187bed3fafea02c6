import java.util.List;

/** All promises: many long runs of calls, each answer of the class compared with the model's. */
public final class ModelTest {
    private static final int RUNS = 10000;
    private static final int MOST_CALLS = 512;
    private static final int[] ENDS = {Integer.MIN_VALUE, Integer.MAX_VALUE, -1, 8, 9, 10, 99, 180, 199, 208, 303, 999};

    private final Due due = new Due("ModelTest");
    private final int[] reached = new int[5];
    private long seed = 20261115;
    private ClosureFlows flows;
    private Model model;
    private int calls;

    public static void main(String[] args) {
        ModelTest test = new ModelTest();
        for (int run = 0; run < RUNS; run++) {
            test.run();
        }
        test.checkThatRunsDiffer();
        test.due.end();
    }

    /** Comparing tells little if no run gets far. */
    private void checkThatRunsDiffer() {
        for (int state = 0; state < reached.length; state++) {
            due.is("state " + state + " is often reached", reached[state] > RUNS / 50, true);
        }
    }

    private int below(int bound) {
        seed = seed * 6364136223846793005L + 1442695040888963407L;
        return (int) ((seed >>> 33) % bound);
    }

    private void run() {
        flows = new ClosureFlows();
        model = new Model();
        calls = 0;
        while (calls < MOST_CALLS - 140) {
            writeProgram();
            for (int turn = below(3); turn >= 0; turn--) {
                use();
            }
            if (below(4) == 0) {
                disturb();
            }
            if (below(3) > 0) {
                clear();
            }
        }
    }

    private void is(String call, int got, int want) {
        calls++;
        due.is(call, got, want);
    }

    private void clear() {
        calls++;
        flows.clear();
        model.clear();
    }

    private int lambda(int parent, int params) {
        int want = model.lambda(parent, params);
        is("lambda(" + parent + ", " + params + ")", flows.lambda(parent, params), want);
        return want;
    }

    private boolean put(int lambda, int atom) {
        boolean want = model.put(lambda, atom);
        is("put(" + lambda + ", " + atom + ")", flows.put(lambda, atom) ? 1 : 0, want ? 1 : 0);
        return want;
    }

    /** Most lambdas of a program have equally many parameters, since a run ends where the arguments do not fit. */
    private void writeProgram() {
        int usual = below(8) == 0 ? 0 : 1 + below(3);
        int more = 1 + below(7);
        for (int i = 0; i < more; i++) {
            int there = model.lambdas();
            int parent = below(3) == 0 ? below(there) : Math.max(0, there - 1 - below(2));
            lambda(parent, below(4) > 0 ? usual : below(3));
        }
        for (int lambda = 0; lambda < model.lambdas(); lambda++) {
            if (model.atom(lambda, 0) < 0) {
                writeCall(lambda, usual);
            }
        }
    }

    private void writeCall(int lambda, int usual) {
        if (below(30) == 0) {
            put(lambda, odd());
            return;
        }
        int operator = operator(lambda);
        put(lambda, operator);
        int arguments = below(30) == 0 ? below(4) : argumentsOf(operator, usual);
        for (int i = 0; i < arguments; i++) {
            boolean number = operator == 301 && i < 2 || operator == 302 && i == 0;
            put(lambda, number && below(3) == 0 ? below(3) : argument(lambda));
        }
    }

    private int argumentsOf(int operator, int usual) {
        if (operator >= 200 && operator < 300) {
            return model.paramsOf(operator - 200);
        }
        return operator == 300 ? 1 : operator > 300 ? 3 : usual;
    }

    private int operator(int lambda) {
        int kind = below(12);
        if (kind == 0) {
            return 300 + below(3);
        }
        return kind == 1 ? 301 + below(2) : parameterOrChild(lambda, below(2) == 0);
    }

    private int argument(int lambda) {
        int kind = below(16);
        if (kind < 13) {
            return parameterOrChild(lambda, below(2) == 0);
        }
        return kind < 15 ? below(10) : 300 + below(3);
    }

    /** What is wanted or, if there is none, the other; a number if there is neither. */
    private int parameterOrChild(int lambda, boolean parameter) {
        List<Integer> wanted = parameter ? model.parametersSeenBy(lambda) : model.childrenOf(lambda);
        List<Integer> other = parameter ? model.childrenOf(lambda) : model.parametersSeenBy(lambda);
        List<Integer> atoms = wanted.isEmpty() ? other : wanted;
        return atoms.isEmpty() ? below(10) : atoms.get(below(atoms.size()));
    }

    private void use() {
        if (below(5) > 0) {
            calls++;
            flows.start();
            model.start();
        }
        for (int pieces = below(3); pieces >= 0; pieces--) {
            int n = pieces == 0 ? 100 : below(6);
            is("step(" + n + ")", flows.step(n), model.step(n));
            compareMachine();
        }
        if (below(5) > 0) {
            int k = below(2);
            is("analyse(" + k + ")", flows.analyse(k), model.analyse(k));
        }
        compareAnalysis();
    }

    private void compareMachine() {
        reached[model.state()]++;
        is("state()", flows.state(), model.state());
        is("at()", flows.at(), model.at());
        is("result()", flows.result(), model.result());
        int lambda = below(model.lambdas());
        is("called(" + lambda + ")", flows.called(lambda), model.called(lambda));
        for (int i = 0; i < 2; i++) {
            int owner = Math.max(0, model.at() - below(3));
            is("value(" + owner + ", " + i + ")", flows.value(owner, i), model.value(owner, i));
        }
    }

    private void compareAnalysis() {
        is("results()", flows.results(), model.results());
        for (int lambda = 0; lambda < model.lambdas(); lambda++) {
            is("flow(" + lambda + ")", flows.flow(lambda), model.flow(lambda));
            is("contours(" + lambda + ")", flows.contours(lambda), model.contours(lambda));
            int i = below(3);
            is("constants(" + lambda + ", " + i + ")", flows.constants(lambda, i), model.constants(lambda, i));
            is("closures(" + lambda + ", " + i + ")", flows.closures(lambda, i), model.closures(lambda, i));
        }
    }

    private int odd() {
        return below(2) == 0 ? ENDS[below(ENDS.length)] : below(320) - 5;
    }

    private void disturb() {
        int one = odd();
        int other = below(2) == 0 ? below(4) : odd();
        String both = "(" + one + ", " + other + ")";
        is("lambda" + both, flows.lambda(one, other), model.lambda(one, other));
        put(one, other);
        put(other, one);
        is("atom" + both, flows.atom(one, other), model.atom(one, other));
        is("step(" + one + ")", flows.step(one), model.step(one));
        is("value" + both, flows.value(one, other), model.value(one, other));
        is("called(" + one + ")", flows.called(one), model.called(one));
        is("analyse(" + one + ")", flows.analyse(one), model.analyse(one));
        is("flow(" + one + ")", flows.flow(one), model.flow(one));
        is("contours(" + one + ")", flows.contours(one), model.contours(one));
        is("constants" + both, flows.constants(one, other), model.constants(one, other));
        is("closures" + both, flows.closures(one, other), model.closures(one, other));
        is("lambdas()", flows.lambdas(), model.lambdas());
    }
}
