import java.util.Arrays;

/** Programs of functions that never return, a machine that runs them, and a flow analysis of all their runs. */
public final class ClosureFlows {
    private static final int NONE = -1;

    private static final int MOST_LAMBDAS = 8;
    private static final int MOST_PARAMS = 3;
    private static final int MOST_ATOMS = 4;
    private static final int CONTOURS = 8;
    private static final int MOST_APPLIED = 64;
    private static final int MOST_STEPS = 100;

    private static final int NUMBERS = 10;
    private static final int FIRST_PARAMETER = 100;
    private static final int PARAMETERS_PER_LAMBDA = 10;
    private static final int FIRST_LAMBDA = 200;
    private static final int HALT = 300;
    private static final int ADD = 301;
    private static final int IFZERO = 302;

    private static final int NOT_STARTED = 0;
    private static final int RUNNING = 1;
    private static final int DONE = 2;
    private static final int STUCK = 3;
    private static final int EXHAUSTED = 4;

    private final Program program;
    private final Machine machine;
    private final Analysis analysis;

    public ClosureFlows() {
        program = new Program();
        machine = new Machine(program);
        analysis = new Analysis(program);
    }

    public int lambda(int parent, int params) {
        int made = program.makeLambda(parent, params);
        if (made != NONE) {
            forgetRuns();
        }
        return made;
    }

    public boolean put(int lambda, int atom) {
        boolean appended = program.append(lambda, atom);
        if (appended) {
            forgetRuns();
        }
        return appended;
    }

    public void clear() {
        program.empty();
        forgetRuns();
    }

    public int lambdas() {
        return program.size();
    }

    public int atom(int lambda, int i) {
        return program.hasAtom(lambda, i) ? program.atomOf(lambda, i) : NONE;
    }

    public void start() {
        machine.begin();
    }

    public int step(int n) {
        if (n < 0 || n > MOST_STEPS || !machine.isStarted()) {
            return NONE;
        }
        return machine.advance(n);
    }

    public int state() {
        return machine.phase();
    }

    public int at() {
        return machine.isStarted() ? machine.place() : NONE;
    }

    public int value(int lambda, int i) {
        return machine.isStarted() ? told(machine.bound(lambda, i)) : NONE;
    }

    public int result() {
        return machine.phase() == DONE ? told(machine.outcome()) : NONE;
    }

    public int called(int lambda) {
        return machine.isStarted() && program.hasLambda(lambda) ? machine.calledFrom(lambda) : NONE;
    }

    public int analyse(int k) {
        return k == 0 || k == 1 ? analysis.make(k) : NONE;
    }

    public int flow(int lambda) {
        return analysis.isMade() && program.hasLambda(lambda) ? analysis.flowFrom(lambda) : NONE;
    }

    public int contours(int lambda) {
        return analysis.isMade() && program.hasLambda(lambda) ? analysis.contoursOf(lambda) : NONE;
    }

    public int constants(int lambda, int i) {
        return analysis.isMade() && program.hasParameter(lambda, i) ? analysis.constantsIn(lambda, i) : NONE;
    }

    public int closures(int lambda, int i) {
        return analysis.isMade() && program.hasParameter(lambda, i) ? analysis.lambdasIn(lambda, i) : NONE;
    }

    public int results() {
        return analysis.isMade() ? analysis.outcomes() : NONE;
    }

    private void forgetRuns() {
        machine.forget();
        analysis.forget();
    }

    private static boolean isNumber(int atom) {
        return atom >= 0 && atom < NUMBERS;
    }

    private static boolean isPrimitive(int atom) {
        return atom >= HALT && atom <= IFZERO;
    }

    private static boolean isParameter(int atom) {
        return atom >= FIRST_PARAMETER && atom < FIRST_PARAMETER + PARAMETERS_PER_LAMBDA * MOST_LAMBDAS;
    }

    private static boolean isLambda(int atom) {
        return atom >= FIRST_LAMBDA && atom < FIRST_LAMBDA + MOST_LAMBDAS;
    }

    private static int lambdaOfParameter(int atom) {
        return (atom - FIRST_PARAMETER) / PARAMETERS_PER_LAMBDA;
    }

    private static int indexOfParameter(int atom) {
        return (atom - FIRST_PARAMETER) % PARAMETERS_PER_LAMBDA;
    }

    /** The atom that a value is told as: NONE stays NONE, since a remainder keeps its sign. */
    private static int told(int value) {
        return value % Machine.ENVIRONMENT_UNIT;
    }

    private static boolean has(int set, int element) {
        return (set >>> element & 1) != 0;
    }

    /** The lambdas of a program and their calls. */
    private static final class Program {
        private final int[] parents = new int[MOST_LAMBDAS];
        private final int[] paramCounts = new int[MOST_LAMBDAS];
        private final int[] lineages = new int[MOST_LAMBDAS];
        private final int[] callLengths = new int[MOST_LAMBDAS];
        private final int[] atoms = new int[MOST_LAMBDAS * MOST_ATOMS];
        private int count;

        Program() {
            parents[0] = NONE;
            lineages[0] = 1;
            count = 1;
        }

        void empty() {
            callLengths[0] = 0;
            count = 1;
        }

        int size() {
            return count;
        }

        boolean hasLambda(int lambda) {
            return lambda >= 0 && lambda < count;
        }

        boolean hasParameter(int lambda, int i) {
            return hasLambda(lambda) && i >= 0 && i < paramCounts[lambda];
        }

        boolean hasAtom(int lambda, int i) {
            return hasLambda(lambda) && i >= 0 && i < callLengths[lambda];
        }

        int paramsOf(int lambda) {
            return paramCounts[lambda];
        }

        int callLength(int lambda) {
            return callLengths[lambda];
        }

        int atomOf(int lambda, int i) {
            return atoms[lambda * MOST_ATOMS + i];
        }

        /** The set of a lambda and its ancestors. */
        int lineageOf(int lambda) {
            return lineages[lambda];
        }

        int makeLambda(int parent, int params) {
            if (!hasLambda(parent) || params < 0 || params > MOST_PARAMS || count == MOST_LAMBDAS) {
                return NONE;
            }
            int made = count;
            parents[made] = parent;
            paramCounts[made] = params;
            lineages[made] = lineages[parent] | 1 << made;
            callLengths[made] = 0;
            count++;
            return made;
        }

        boolean append(int lambda, int atom) {
            if (!hasLambda(lambda) || callLengths[lambda] == MOST_ATOMS || !mayStand(lambda, atom)) {
                return false;
            }
            atoms[lambda * MOST_ATOMS + callLengths[lambda]] = atom;
            callLengths[lambda]++;
            return true;
        }

        private boolean mayStand(int lambda, int atom) {
            if (isParameter(atom)) {
                int owner = lambdaOfParameter(atom);
                return hasParameter(owner, indexOfParameter(atom)) && has(lineages[lambda], owner);
            }
            if (isLambda(atom)) {
                int named = atom - FIRST_LAMBDA;
                return hasLambda(named) && parents[named] == lambda;
            }
            return isNumber(atom) || isPrimitive(atom);
        }
    }

    /**
     * Runs a program.
     *
     * Every applied closure makes one environment and moves the machine into it, so the number of closures applied
     * is also the number of the environment in use; environment 0 is the empty one of lambda 0.
     *
     * A number or a primitive is held as its atom; a closure as the atom of its lambda plus ENVIRONMENT_UNIT times
     * its environment.
     */
    private static final class Machine {
        private static final int ENVIRONMENT_UNIT = 1000;
        private static final int ENVIRONMENTS = MOST_APPLIED + 1;

        private final Program program;
        private final int[] owners = new int[ENVIRONMENTS];
        private final int[] outers = new int[ENVIRONMENTS];
        private final int[] bindings = new int[ENVIRONMENTS * MOST_PARAMS];
        private final int[] calledSets = new int[MOST_LAMBDAS];
        private final int[] operands = new int[MOST_ATOMS];
        private int applied;
        private int phase;
        private int outcome;

        Machine(Program program) {
            this.program = program;
        }

        void forget() {
            phase = NOT_STARTED;
        }

        void begin() {
            phase = RUNNING;
            applied = 0;
            Arrays.fill(calledSets, 0);
        }

        boolean isStarted() {
            return phase != NOT_STARTED;
        }

        int phase() {
            return phase;
        }

        int place() {
            return owners[applied];
        }

        int outcome() {
            return outcome;
        }

        int calledFrom(int lambda) {
            return calledSets[lambda];
        }

        int bound(int lambda, int i) {
            if (!program.hasParameter(lambda, i)) {
                return NONE;
            }
            int environment = applied;
            for (int depth = 0; depth < MOST_LAMBDAS; depth++) {
                if (owners[environment] == lambda) {
                    return bindings[environment * MOST_PARAMS + i];
                }
                environment = outers[environment];
            }
            return NONE;
        }

        int advance(int n) {
            for (int made = 0; made < n; made++) {
                if (phase != RUNNING) {
                    return made;
                }
                tryStep();
                if (phase == EXHAUSTED) {
                    return made;
                }
            }
            return n;
        }

        private void tryStep() {
            int length = program.callLength(place());
            if (length == 0) {
                phase = STUCK;
                return;
            }
            for (int i = 0; i < length; i++) {
                operands[i] = meaning(program.atomOf(place(), i));
            }
            applyOperator(length - 1);
        }

        private int meaning(int atom) {
            if (isParameter(atom)) {
                return bound(lambdaOfParameter(atom), indexOfParameter(atom));
            }
            return isLambda(atom) ? applied * ENVIRONMENT_UNIT + atom : atom;
        }

        private void applyOperator(int arguments) {
            boolean choosing = arguments == MOST_PARAMS && isNumber(operands[1]);
            if (choosing && operands[0] == IFZERO) {
                applyDirectly(operands[1] == 0 ? operands[2] : operands[3], 0);
            } else if (choosing && operands[0] == ADD && isNumber(operands[2])) {
                operands[1] = (operands[1] + operands[2]) % NUMBERS;
                applyDirectly(operands[3], 1);
            } else {
                applyDirectly(operands[0], arguments);
            }
        }

        /** ADD and IFZERO need three arguments and hand on fewer, so here they are always misapplied. */
        private void applyDirectly(int operator, int arguments) {
            int atom = told(operator);
            if (isLambda(atom) && program.paramsOf(atom - FIRST_LAMBDA) == arguments) {
                enter(atom - FIRST_LAMBDA, operator / ENVIRONMENT_UNIT, arguments);
            } else if (operator == HALT && arguments == 1) {
                outcome = operands[1];
                phase = DONE;
            } else {
                phase = STUCK;
            }
        }

        private void enter(int lambda, int environment, int arguments) {
            if (applied == MOST_APPLIED) {
                phase = EXHAUSTED;
                return;
            }
            calledSets[place()] |= 1 << lambda;
            applied++;
            owners[applied] = lambda;
            outers[applied] = environment;
            for (int i = 0; i < arguments; i++) {
                bindings[applied * MOST_PARAMS + i] = operands[1 + i];
            }
        }
    }

    /**
     * Finds the least sets by visiting all states again until no set grows.
     *
     * A set of abstract values is held in two parts: its numbers and primitives as the document's bits, and its
     * pairs with bit CONTOURS * lambda + contour. The set of states is held as pairs are.
     */
    private static final class Analysis {
        private static final int SETS = MOST_LAMBDAS * MOST_PARAMS * CONTOURS;
        private static final int PAIRS = MOST_LAMBDAS * CONTOURS;
        private static final int ALL_CONTOURS = (1 << CONTOURS) - 1;
        private static final int ALL_NUMBERS = (1 << NUMBERS) - 1;
        private static final int PAIR_RESULT = 8192;
        private static final int SUM_OPERAND = MOST_ATOMS;
        /** Each pass but the last makes some set grow: SETS times 77 values and 64 states are fewer than this. */
        private static final int MOST_PASSES = 20000;

        private final Program program;
        private final int[] constantSets = new int[SETS];
        private final long[] pairSets = new long[SETS];
        private final int[] operandConstants = new int[MOST_ATOMS + 1];
        private final long[] operandPairs = new long[MOST_ATOMS + 1];
        private final int[] flowSets = new int[MOST_LAMBDAS];
        private long states;
        private int outcomes;
        private int visited;
        private int newContour;
        private boolean grown;
        private boolean made;

        Analysis(Program program) {
            this.program = program;
        }

        void forget() {
            made = false;
        }

        boolean isMade() {
            return made;
        }

        int flowFrom(int lambda) {
            return flowSets[lambda];
        }

        int contoursOf(int lambda) {
            return contoursIn(states, lambda);
        }

        int outcomes() {
            return outcomes;
        }

        int constantsIn(int lambda, int i) {
            int set = 0;
            for (int contour = 0; contour < CONTOURS; contour++) {
                set |= constantSets[slot(lambda, i, contour)];
            }
            return set;
        }

        int lambdasIn(int lambda, int i) {
            long pairs = 0;
            for (int contour = 0; contour < CONTOURS; contour++) {
                pairs |= pairSets[slot(lambda, i, contour)];
            }
            int set = 0;
            for (int held = 0; held < MOST_LAMBDAS; held++) {
                if (contoursIn(pairs, held) != 0) {
                    set |= 1 << held;
                }
            }
            return set;
        }

        int make(int k) {
            emptySets();
            states = pair(0, 0);
            grown = true;
            for (int pass = 0; grown && pass < MOST_PASSES; pass++) {
                grown = false;
                for (int state = 0; state < PAIRS; state++) {
                    if (hasPair(states, state)) {
                        visit(state / CONTOURS, state % CONTOURS, k);
                    }
                }
            }
            made = true;
            return Long.bitCount(states);
        }

        private void emptySets() {
            Arrays.fill(constantSets, 0);
            Arrays.fill(pairSets, 0L);
            Arrays.fill(flowSets, 0);
            outcomes = 0;
        }

        private void visit(int lambda, int contour, int k) {
            int length = program.callLength(lambda);
            if (length == 0) {
                return;
            }
            visited = lambda;
            newContour = k == 1 ? lambda : 0;
            for (int i = 0; i < length; i++) {
                loadOperand(i, program.atomOf(lambda, i), contour);
            }
            applyDirectly(0, 1, length - 1);
            int operators = length == MOST_ATOMS ? operandConstants[0] : 0;
            int numbers = operandConstants[1] & ALL_NUMBERS;
            if (has(operators, constantBit(ADD)) && loadSums(numbers, operandConstants[2] & ALL_NUMBERS)) {
                applyDirectly(3, SUM_OPERAND, 1);
            }
            if (has(operators, constantBit(IFZERO)) && has(numbers, 0)) {
                applyDirectly(2, 1, 0);
            }
            if (has(operators, constantBit(IFZERO)) && numbers > 1) {
                applyDirectly(3, 1, 0);
            }
        }

        private void loadOperand(int operand, int atom, int contour) {
            operandConstants[operand] = 0;
            operandPairs[operand] = 0;
            if (isParameter(atom)) {
                int slot = slot(lambdaOfParameter(atom), indexOfParameter(atom), contour);
                operandConstants[operand] = constantSets[slot];
                operandPairs[operand] = pairSets[slot];
            } else if (isLambda(atom)) {
                operandPairs[operand] = pair(atom - FIRST_LAMBDA, contour);
            } else {
                operandConstants[operand] = 1 << constantBit(atom);
            }
        }

        /** Answers whether there is a sum at all, since ADD applies nothing without one. */
        private boolean loadSums(int first, int second) {
            int sums = 0;
            for (int number = 0; number < NUMBERS; number++) {
                if (has(first, number)) {
                    int shifted = second << number;
                    sums |= (shifted | shifted >>> NUMBERS) & ALL_NUMBERS;
                }
            }
            operandConstants[SUM_OPERAND] = sums;
            return sums != 0;
        }

        /** Leaves ADD and IFZERO out: what they apply in turn gets too few arguments to be one of them. */
        private void applyDirectly(int operator, int firstArgument, int arguments) {
            if (arguments == 1 && has(operandConstants[operator], constantBit(HALT))) {
                outcomes |= operandConstants[firstArgument];
                outcomes |= operandPairs[firstArgument] == 0 ? 0 : PAIR_RESULT;
            }
            long pairs = operandPairs[operator];
            for (int pair = 0; pair < PAIRS; pair++) {
                if (hasPair(pairs, pair) && program.paramsOf(pair / CONTOURS) == arguments) {
                    enter(pair / CONTOURS, pair % CONTOURS, firstArgument);
                }
            }
        }

        private void enter(int lambda, int environment, int firstArgument) {
            flowSets[visited] |= 1 << lambda;
            addState(lambda);
            for (int i = 0; i < program.paramsOf(lambda); i++) {
                int operand = firstArgument + i;
                widen(slot(lambda, i, newContour), operandConstants[operand], operandPairs[operand]);
            }
            int lineage = program.lineageOf(lambda);
            for (int older = 0; older < lambda; older++) {
                if (has(lineage, older)) {
                    carryOver(older, environment);
                }
            }
        }

        private void addState(int lambda) {
            long more = states | pair(lambda, newContour);
            if (more != states) {
                states = more;
                grown = true;
            }
        }

        private void carryOver(int lambda, int environment) {
            for (int i = 0; i < program.paramsOf(lambda); i++) {
                int from = slot(lambda, i, environment);
                widen(slot(lambda, i, newContour), constantSets[from], pairSets[from]);
            }
        }

        private void widen(int slot, int constants, long pairs) {
            int moreConstants = constantSets[slot] | constants;
            long morePairs = pairSets[slot] | pairs;
            if (moreConstants != constantSets[slot] || morePairs != pairSets[slot]) {
                constantSets[slot] = moreConstants;
                pairSets[slot] = morePairs;
                grown = true;
            }
        }

        private static int slot(int lambda, int i, int contour) {
            return (lambda * MOST_PARAMS + i) * CONTOURS + contour;
        }

        private static long pair(int lambda, int contour) {
            return 1L << (CONTOURS * lambda + contour);
        }

        private static boolean hasPair(long pairs, int pair) {
            return (pairs >>> pair & 1L) != 0;
        }

        private static int contoursIn(long pairs, int lambda) {
            return (int) (pairs >>> CONTOURS * lambda) & ALL_CONTOURS;
        }

        private static int constantBit(int atom) {
            return isNumber(atom) ? atom : NUMBERS + atom - HALT;
        }
    }
}
