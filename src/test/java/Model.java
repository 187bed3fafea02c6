import java.util.ArrayList;
import java.util.HashMap;
import java.util.HashSet;
import java.util.List;
import java.util.Map;
import java.util.Set;

/**
 * The document's words written down as plainly as they go, with maps and sets, to be compared with the class.
 *
 * Parameters are named by their atoms here, and so are numbers, primitives and lambdas.
 */
final class Model {
    private record Lambda(int parent, int params, List<Integer> call) {
    }

    /** A value of the machine: an atom and, for a closure, the environment. */
    private record Value(int atom, Map<Integer, Value> environment) {
    }

    /** An abstract value: an atom and, for a pair, the contour, otherwise -1. */
    private record Abstract(int atom, int contour) {
    }

    private record State(int lambda, int contour) {
    }

    private record Place(int parameter, int contour) {
    }

    private record Call(int from, int to) {
    }

    private final List<Lambda> lambdas = new ArrayList<>();

    private int state;
    private int at;
    private int applied;
    private Map<Integer, Value> environment;
    private Value result;
    private Set<Call> calls;

    private boolean analysed;
    private int k;
    private Map<Place, Set<Abstract>> sets;
    private Set<State> states;
    private Set<Call> mayCalls;
    private Set<Abstract> mayResults;

    Model() {
        clear();
    }

    void clear() {
        lambdas.clear();
        lambdas.add(new Lambda(-1, 0, new ArrayList<>()));
        changed();
    }

    private void changed() {
        state = 0;
        analysed = false;
    }

    private boolean isThere(int lambda) {
        return lambda >= 0 && lambda < lambdas.size();
    }

    private boolean isThere(int lambda, int i) {
        return isThere(lambda) && i >= 0 && i < lambdas.get(lambda).params();
    }

    int lambda(int parent, int params) {
        if (!isThere(parent) || params < 0 || params > 3 || lambdas.size() == 8) {
            return -1;
        }
        lambdas.add(new Lambda(parent, params, new ArrayList<>()));
        changed();
        return lambdas.size() - 1;
    }

    boolean put(int lambda, int atom) {
        if (!isThere(lambda) || lambdas.get(lambda).call().size() == 4 || !mayStand(lambda).contains(atom)) {
            return false;
        }
        lambdas.get(lambda).call().add(atom);
        changed();
        return true;
    }

    private Set<Integer> mayStand(int lambda) {
        Set<Integer> atoms = new HashSet<>(List.of(300, 301, 302));
        for (int number = 0; number < 10; number++) {
            atoms.add(number);
        }
        atoms.addAll(childrenOf(lambda));
        atoms.addAll(parametersSeenBy(lambda));
        return atoms;
    }

    List<Integer> childrenOf(int lambda) {
        List<Integer> children = new ArrayList<>();
        for (int other = 0; other < lambdas.size(); other++) {
            if (lambdas.get(other).parent() == lambda) {
                children.add(200 + other);
            }
        }
        return children;
    }

    List<Integer> parametersSeenBy(int lambda) {
        List<Integer> parameters = parametersOf(lambda);
        parameters.addAll(parametersOfAncestors(lambda));
        return parameters;
    }

    int paramsOf(int lambda) {
        return lambdas.get(lambda).params();
    }

    private List<Integer> parametersOf(int lambda) {
        List<Integer> parameters = new ArrayList<>();
        for (int i = 0; i < lambdas.get(lambda).params(); i++) {
            parameters.add(100 + 10 * lambda + i);
        }
        return parameters;
    }

    private List<Integer> parametersOfAncestors(int lambda) {
        List<Integer> parameters = new ArrayList<>();
        for (int older = lambdas.get(lambda).parent(); older >= 0; older = lambdas.get(older).parent()) {
            parameters.addAll(parametersOf(older));
        }
        return parameters;
    }

    int lambdas() {
        return lambdas.size();
    }

    int atom(int lambda, int i) {
        boolean there = isThere(lambda) && i >= 0 && i < lambdas.get(lambda).call().size();
        return there ? lambdas.get(lambda).call().get(i) : -1;
    }

    void start() {
        state = 1;
        at = 0;
        applied = 0;
        environment = Map.of();
        result = null;
        calls = new HashSet<>();
    }

    int step(int n) {
        if (n < 0 || n > 100 || state == 0) {
            return -1;
        }
        int made = 0;
        while (made < n && state == 1) {
            makeStep();
            if (state != 4) {
                made++;
            }
        }
        return made;
    }

    private void makeStep() {
        List<Value> values = new ArrayList<>();
        for (int atom : lambdas.get(at).call()) {
            if (atom >= 100 && atom < 200) {
                values.add(environment.get(atom));
            } else {
                values.add(new Value(atom, isLambda(atom) ? environment : null));
            }
        }
        if (values.isEmpty()) {
            state = 3;
        } else {
            apply(values.get(0), values.subList(1, values.size()));
        }
    }

    private static boolean isLambda(int atom) {
        return atom >= 200 && atom < 300;
    }

    private static boolean isNumber(int atom) {
        return atom >= 0 && atom < 10;
    }

    private void apply(Value operator, List<Value> arguments) {
        int atom = operator.atom();
        int count = arguments.size();
        if (isLambda(atom) && lambdas.get(atom - 200).params() == count) {
            applyClosure(operator, arguments);
        } else if (atom == 300 && count == 1) {
            result = arguments.get(0);
            state = 2;
        } else if (atom == 301 && count == 3
            && isNumber(arguments.get(0).atom()) && isNumber(arguments.get(1).atom())) {
            int sum = (arguments.get(0).atom() + arguments.get(1).atom()) % 10;
            apply(arguments.get(2), List.of(new Value(sum, null)));
        } else if (atom == 302 && count == 3 && isNumber(arguments.get(0).atom())) {
            apply(arguments.get(arguments.get(0).atom() == 0 ? 1 : 2), List.of());
        } else {
            state = 3;
        }
    }

    private void applyClosure(Value closure, List<Value> arguments) {
        if (applied == 64) {
            state = 4;
            return;
        }
        applied++;
        int lambda = closure.atom() - 200;
        calls.add(new Call(at, lambda));
        environment = new HashMap<>(closure.environment());
        for (int i = 0; i < arguments.size(); i++) {
            environment.put(100 + 10 * lambda + i, arguments.get(i));
        }
        at = lambda;
    }

    int state() {
        return state;
    }

    int at() {
        return state == 0 ? -1 : at;
    }

    int value(int lambda, int i) {
        if (state == 0 || !isThere(lambda, i)) {
            return -1;
        }
        Value value = environment.get(100 + 10 * lambda + i);
        return value == null ? -1 : value.atom();
    }

    int result() {
        return state == 2 ? result.atom() : -1;
    }

    int called(int lambda) {
        return state == 0 || !isThere(lambda) ? -1 : callsFrom(lambda, calls);
    }

    private static int callsFrom(int lambda, Set<Call> calls) {
        int set = 0;
        for (Call call : calls) {
            set |= call.from() == lambda ? 1 << call.to() : 0;
        }
        return set;
    }

    int analyse(int newK) {
        if (newK != 0 && newK != 1) {
            return -1;
        }
        analysed = true;
        k = newK;
        sets = new HashMap<>();
        states = new HashSet<>(Set.of(new State(0, 0)));
        mayCalls = new HashSet<>();
        mayResults = new HashSet<>();
        int before;
        do {
            before = sizeOfAll();
            for (State one : List.copyOf(states)) {
                visit(one);
            }
        } while (sizeOfAll() != before);
        return states.size();
    }

    private int sizeOfAll() {
        int size = states.size() + mayCalls.size() + mayResults.size();
        for (Set<Abstract> set : sets.values()) {
            size += set.size();
        }
        return size;
    }

    private Set<Abstract> set(int parameter, int contour) {
        return sets.computeIfAbsent(new Place(parameter, contour), place -> new HashSet<>());
    }

    private void visit(State where) {
        List<Set<Abstract>> values = new ArrayList<>();
        for (int atom : lambdas.get(where.lambda()).call()) {
            if (atom >= 100 && atom < 200) {
                values.add(Set.copyOf(set(atom, where.contour())));
            } else {
                values.add(Set.of(new Abstract(atom, isLambda(atom) ? where.contour() : -1)));
            }
        }
        if (!values.isEmpty()) {
            applyAll(values.get(0), values.subList(1, values.size()), where);
        }
    }

    private void applyAll(Set<Abstract> operators, List<Set<Abstract>> arguments, State where) {
        for (Abstract operator : operators) {
            applyAbstract(operator, arguments, where);
        }
    }

    private void applyAbstract(Abstract operator, List<Set<Abstract>> arguments, State where) {
        if (isLambda(operator.atom())) {
            applyPair(operator, arguments, where);
        } else if (operator.atom() == 300 && arguments.size() == 1) {
            mayResults.addAll(arguments.get(0));
        } else if (operator.atom() == 301 && arguments.size() == 3) {
            Set<Abstract> sums = sums(arguments.get(0), arguments.get(1));
            if (!sums.isEmpty()) {
                applyAll(arguments.get(2), List.of(sums), where);
            }
        } else if (operator.atom() == 302 && arguments.size() == 3) {
            if (hasNumber(arguments.get(0), 0, 0)) {
                applyAll(arguments.get(1), List.of(), where);
            }
            if (hasNumber(arguments.get(0), 1, 9)) {
                applyAll(arguments.get(2), List.of(), where);
            }
        }
    }

    private static boolean hasNumber(Set<Abstract> set, int low, int high) {
        for (Abstract value : set) {
            if (value.atom() >= low && value.atom() <= high) {
                return true;
            }
        }
        return false;
    }

    private static Set<Abstract> sums(Set<Abstract> first, Set<Abstract> second) {
        Set<Abstract> sums = new HashSet<>();
        for (Abstract one : first) {
            for (Abstract other : second) {
                if (isNumber(one.atom()) && isNumber(other.atom())) {
                    sums.add(new Abstract((one.atom() + other.atom()) % 10, -1));
                }
            }
        }
        return sums;
    }

    private void applyPair(Abstract pair, List<Set<Abstract>> arguments, State where) {
        int lambda = pair.atom() - 200;
        if (lambdas.get(lambda).params() != arguments.size()) {
            return;
        }
        int contour = k == 1 ? where.lambda() : 0;
        states.add(new State(lambda, contour));
        mayCalls.add(new Call(where.lambda(), lambda));
        for (int i = 0; i < arguments.size(); i++) {
            set(100 + 10 * lambda + i, contour).addAll(arguments.get(i));
        }
        for (int parameter : parametersOfAncestors(lambda)) {
            set(parameter, contour).addAll(List.copyOf(set(parameter, pair.contour())));
        }
    }

    int flow(int lambda) {
        return !analysed || !isThere(lambda) ? -1 : callsFrom(lambda, mayCalls);
    }

    int contours(int lambda) {
        if (!analysed || !isThere(lambda)) {
            return -1;
        }
        int set = 0;
        for (State one : states) {
            set |= one.lambda() == lambda ? 1 << one.contour() : 0;
        }
        return set;
    }

    int constants(int lambda, int i) {
        if (!analysed || !isThere(lambda, i)) {
            return -1;
        }
        int set = 0;
        for (int contour = 0; contour < 8; contour++) {
            set |= constantsOf(set(100 + 10 * lambda + i, contour));
        }
        return set;
    }

    private static int constantsOf(Set<Abstract> values) {
        int set = 0;
        for (Abstract value : values) {
            if (!isLambda(value.atom())) {
                set |= isNumber(value.atom()) ? 1 << value.atom() : 1 << 10 + value.atom() - 300;
            }
        }
        return set;
    }

    int closures(int lambda, int i) {
        if (!analysed || !isThere(lambda, i)) {
            return -1;
        }
        int set = 0;
        for (int contour = 0; contour < 8; contour++) {
            for (Abstract value : set(100 + 10 * lambda + i, contour)) {
                set |= isLambda(value.atom()) ? 1 << value.atom() - 200 : 0;
            }
        }
        return set;
    }

    int results() {
        if (!analysed) {
            return -1;
        }
        boolean pair = false;
        for (Abstract value : mayResults) {
            pair |= isLambda(value.atom());
        }
        return constantsOf(mayResults) + (pair ? 8192 : 0);
    }
}
