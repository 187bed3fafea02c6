import java.util.ArrayList;
import java.util.List;
import java.util.function.Supplier;
import java.util.function.ToIntFunction;

/**
 * "A call that is refused changes nothing": every call that the document refuses is made in every situation in which
 * it is refused, and then all is asked that can be asked of the program, the machine and the analysis.
 *
 * Each question is put to an object of its own, so that no question hides what the refused call has changed.
 */
public final class RefusalTest {
    private record Situation(String name, Supplier<ClosureFlows> made) {
    }

    private record Question(String name, ToIntFunction<ClosureFlows> asked) {
    }

    private record Refused(String promise, String words, String call, ToIntFunction<ClosureFlows> made) {
    }

    private static final int HALT = Programs.HALT;
    private static final int NO_ANALYSIS = -1;

    private final Due due = new Due("RefusalTest");
    private final List<Question> questions = allQuestions();

    public static void main(String[] args) {
        RefusalTest test = new RefusalTest();
        for (int k = NO_ANALYSIS; k <= 1; k++) {
            test.refusedWithAnalysis(k);
        }
        test.refusedWhenEightAreThere();
        test.due.end();
    }

    private void refusedWithAnalysis(int k) {
        List<Refused> always = alwaysRefused();
        if (k == NO_ANALYSIS) {
            always.addAll(refusedWithoutAnalysis());
        }
        List<Refused> unlessDone = new ArrayList<>(always);
        unlessDone.add(new Refused("12", "-1 when the machine is not DONE", "result()", ClosureFlows::result));
        List<Refused> unlessStarted = new ArrayList<>(unlessDone);
        unlessStarted.addAll(refusedBeforeStart());

        String name = k == NO_ANALYSIS ? "without an analysis" : "with k = " + k;
        check(new Situation("new, " + name, () -> analysed(new ClosureFlows(), k)), unlessStarted);
        check(new Situation("not started, " + name, () -> analysed(program(HALT, 110), k)), unlessStarted);
        check(new Situation("at lambda 2, " + name, () -> run(program(202, 110, 7), 2, k)), unlessDone);
        check(new Situation("after 64 closures, " + name, () -> run(program(110, 110), 64, k)), unlessDone);
        check(new Situation("done, " + name, () -> run(program(HALT, 110), 100, k)), always);
        check(new Situation("stuck, " + name, () -> run(program(5, 110), 100, k)), unlessDone);
        check(new Situation("exhausted, " + name, () -> run(program(110, 110), 100, k)), unlessDone);
    }

    /** Lambdas 1 (of one parameter) and 3 (of none) are in lambda 0, and 2 (of two) in 1; the call of 3 is full. */
    private static ClosureFlows program(int... callOfOne) {
        ClosureFlows flows = Programs.withLambdas(0, 1, 1, 2, 0, 0);
        Programs.call(flows, 0, 201, 201);
        Programs.call(flows, 1, callOfOne);
        Programs.call(flows, 3, 1, 2, 3, 4);
        return flows;
    }

    private static ClosureFlows run(ClosureFlows flows, int steps, int k) {
        flows.start();
        flows.step(steps);
        return analysed(flows, k);
    }

    private static ClosureFlows analysed(ClosureFlows flows, int k) {
        if (k != NO_ANALYSIS) {
            flows.analyse(k);
        }
        return flows;
    }

    private void check(Situation situation, List<Refused> refused) {
        int[] answers = new int[questions.size()];
        for (int i = 0; i < answers.length; i++) {
            answers[i] = questions.get(i).asked().applyAsInt(situation.made().get());
        }
        for (Refused one : refused) {
            due.promise(one.promise(), one.words());
            String what = situation.name() + ": " + one.call();
            for (int i = 0; i < answers.length; i++) {
                Question question = questions.get(i);
                ClosureFlows flows = situation.made().get();
                due.is(what, one.made().applyAsInt(flows), -1);
                due.is(what + ", then " + question.name(), question.asked().applyAsInt(flows), answers[i]);
            }
        }
    }

    private static List<Question> allQuestions() {
        List<Question> all = new ArrayList<>();
        all.add(new Question("lambdas()", ClosureFlows::lambdas));
        all.add(new Question("lambda(0, 1)", flows -> flows.lambda(0, 1)));
        for (int lambda = 0; lambda < 8; lambda++) {
            askOfLambda(all, lambda);
            for (int i = 0; i < 3; i++) {
                askOfParameter(all, lambda, i);
            }
        }
        askOfMachine(all);
        all.add(new Question("results()", ClosureFlows::results));
        all.add(new Question("analyse(0)", flows -> flows.analyse(0)));
        all.add(new Question("analyse(1)", flows -> flows.analyse(1)));
        return all;
    }

    private static void askOfLambda(List<Question> all, int lambda) {
        for (int place = 0; place < 4; place++) {
            int i = place;
            all.add(new Question("atom(" + lambda + ", " + i + ")", flows -> flows.atom(lambda, i)));
        }
        all.add(new Question("put(" + lambda + ", 9)", flows -> flows.put(lambda, 9) ? 1 : 0));
        all.add(new Question("called(" + lambda + ")", flows -> flows.called(lambda)));
        all.add(new Question("flow(" + lambda + ")", flows -> flows.flow(lambda)));
        all.add(new Question("contours(" + lambda + ")", flows -> flows.contours(lambda)));
    }

    private static void askOfParameter(List<Question> all, int lambda, int i) {
        String parameter = "(" + lambda + ", " + i + ")";
        all.add(new Question("value" + parameter, flows -> flows.value(lambda, i)));
        all.add(new Question("constants" + parameter, flows -> flows.constants(lambda, i)));
        all.add(new Question("closures" + parameter, flows -> flows.closures(lambda, i)));
    }

    /** How the run goes on tells what no other answer does, such as how many closures have been applied. */
    private static void askOfMachine(List<Question> all) {
        all.add(new Question("state()", ClosureFlows::state));
        all.add(new Question("at()", ClosureFlows::at));
        all.add(new Question("result()", ClosureFlows::result));
        all.add(new Question("step(1)", flows -> flows.step(1)));
        all.add(new Question("step(100)", flows -> flows.step(100)));
        all.add(new Question("step(100), state()", flows -> stepped(flows).state()));
        all.add(new Question("step(100), at()", flows -> stepped(flows).at()));
        all.add(new Question("step(100), value(1, 0)", flows -> stepped(flows).value(1, 0)));
        all.add(new Question("step(100), called(1)", flows -> stepped(flows).called(1)));
    }

    private static ClosureFlows stepped(ClosureFlows flows) {
        flows.step(100);
        return flows;
    }

    private static int[] andFar(int... near) {
        int[] all = new int[near.length + 2];
        System.arraycopy(near, 0, all, 0, near.length);
        all[near.length] = Integer.MIN_VALUE;
        all[near.length + 1] = Integer.MAX_VALUE;
        return all;
    }

    private static List<Refused> alwaysRefused() {
        List<Refused> all = new ArrayList<>();
        addLambda(all);
        addPut(all);
        addAtom(all);
        addStep(all);
        addValue(all);
        addCalled(all);
        addAnalyse(all);
        addFlowAndContours(all);
        addConstantsAndClosures(all);
        return all;
    }

    private static Refused lambda(String words, int parent, int params) {
        return new Refused("2", words, "lambda(" + parent + ", " + params + ")", flows -> flows.lambda(parent, params));
    }

    private static void addLambda(List<Refused> all) {
        for (int parent : andFar(-1, 4, 7, 8, 9)) {
            all.add(lambda("-1 when there is no lambda parent", parent, 0));
        }
        for (int params : andFar(-1, 4)) {
            all.add(lambda("-1 when .. params is not 0 .. 3", 0, params));
        }
    }

    /** The answer false is told as -1, as the other calls tell that they are refused. */
    private static Refused put(String words, int lambda, int atom) {
        return new Refused("3", words, "put(" + lambda + ", " + atom + ")", flows -> flows.put(lambda, atom) ? 1 : -1);
    }

    private static void addPut(List<Refused> all) {
        for (int lambda : andFar(-1, 4, 7, 8, 9)) {
            all.add(put("false when there is no such lambda", lambda, 9));
        }
        all.add(put("false when .. its call has four atoms", 3, 9));
        all.add(put("false when .. its call has four atoms", 3, HALT));
        int[][] wrong = {andFar(-1, 10, 99, 100, 110, 180, 199, 200, 202, 208, 299, 303), {100, 120, 200, 201, 203},
            {130, 201, 202, 203}, {110, 201, 203}};
        for (int lambda = 0; lambda < wrong.length; lambda++) {
            for (int atom : wrong[lambda]) {
                all.add(put("false when .. the atom may not stand there", lambda, atom));
            }
        }
        int[][] missing = {{130, 204, 207}, {111, 112, 113, 119, 140}, {122, 123, 111, 140, 204}};
        for (int lambda = 0; lambda < missing.length; lambda++) {
            for (int atom : missing[lambda]) {
                all.add(put("what it names must be there", lambda, atom));
            }
        }
    }

    private static Refused atom(int lambda, int i) {
        String call = "atom(" + lambda + ", " + i + ")";
        return new Refused("6", "-1 when there is none", call, flows -> flows.atom(lambda, i));
    }

    private static void addAtom(List<Refused> all) {
        for (int lambda : andFar(-1, 4, 7, 8, 9)) {
            all.add(atom(lambda, 0));
        }
        for (int i : andFar(-1, 2, 3, 4)) {
            all.add(atom(0, i));
        }
        all.add(atom(1, -1));
        all.add(atom(2, 0));
        all.add(atom(3, 4));
    }

    private static Refused step(String words, int n) {
        return new Refused("8", words, "step(" + n + ")", flows -> flows.step(n));
    }

    private static void addStep(List<Refused> all) {
        for (int n : andFar(-1, 101)) {
            all.add(step("-1 when n is not 0 .. 100", n));
        }
    }

    private static Refused value(String words, int lambda, int i) {
        return new Refused("11", words, "value(" + lambda + ", " + i + ")", flows -> flows.value(lambda, i));
    }

    private static void addValue(List<Refused> all) {
        String words = "-1 when .. that environment has no such parameter";
        for (int lambda : andFar(-1, 0, 3, 4, 7, 8, 9)) {
            all.add(value(words, lambda, 0));
        }
        for (int i : andFar(-1, 1, 3, 10)) {
            all.add(value(words, 1, i));
        }
        all.add(value(words, 2, -1));
        all.add(value(words, 2, 2));
    }

    private static Refused called(String words, int lambda) {
        return new Refused("13", words, "called(" + lambda + ")", flows -> flows.called(lambda));
    }

    private static void addCalled(List<Refused> all) {
        for (int lambda : andFar(-1, 4, 7, 8, 9)) {
            all.add(called("-1 when .. there is no such lambda", lambda));
        }
    }

    private static void addAnalyse(List<Refused> all) {
        for (int k : andFar(-1, 2)) {
            all.add(new Refused("14", "-1 when k is not 0 or 1", "analyse(" + k + ")", flows -> flows.analyse(k)));
        }
    }

    private static Refused flow(String words, int lambda) {
        return new Refused("15", words, "flow(" + lambda + ")", flows -> flows.flow(lambda));
    }

    private static Refused contours(String words, int lambda) {
        return new Refused("16", words, "contours(" + lambda + ")", flows -> flows.contours(lambda));
    }

    private static void addFlowAndContours(List<Refused> all) {
        for (int lambda : andFar(-1, 4, 7, 8, 9)) {
            all.add(flow("-1 when .. no such lambda", lambda));
            all.add(contours("-1 when .. no such lambda", lambda));
        }
    }

    private static Refused constants(String words, int lambda, int i) {
        return new Refused("17", words, "constants(" + lambda + ", " + i + ")", flows -> flows.constants(lambda, i));
    }

    private static Refused closures(String words, int lambda, int i) {
        return new Refused("18", words, "closures(" + lambda + ", " + i + ")", flows -> flows.closures(lambda, i));
    }

    private static void addConstantsAndClosures(List<Refused> all) {
        for (int lambda : andFar(-1, 0, 3, 4, 7, 8, 9)) {
            all.add(constants("-1 when .. no such parameter", lambda, 0));
            all.add(closures("-1 when .. no such parameter", lambda, 0));
        }
        for (int i : andFar(-1, 1, 3, 10)) {
            all.add(constants("-1 when .. no such parameter", 1, i));
            all.add(closures("-1 when .. no such parameter", 1, i));
        }
        for (int i : new int[] {-1, 2}) {
            all.add(constants("-1 when .. no such parameter", 2, i));
            all.add(closures("-1 when .. no such parameter", 2, i));
        }
    }

    private static List<Refused> refusedBeforeStart() {
        List<Refused> all = new ArrayList<>();
        for (int n : new int[] {0, 1, 100}) {
            all.add(step("-1 when .. the machine is not started", n));
        }
        all.add(new Refused("10", "-1 when it is not started", "at()", ClosureFlows::at));
        for (int lambda = 0; lambda < 4; lambda++) {
            all.add(value("-1 when the machine is not started", lambda, 0));
            all.add(called("-1 when it is not started", lambda));
        }
        return all;
    }

    private static List<Refused> refusedWithoutAnalysis() {
        List<Refused> all = new ArrayList<>();
        for (int lambda = 0; lambda < 4; lambda++) {
            all.add(flow("-1 when there is no analysis", lambda));
            all.add(contours("-1 when there is no analysis", lambda));
            all.add(constants("-1 when there is no analysis", lambda, 0));
            all.add(closures("-1 when there is no analysis", lambda, 0));
        }
        all.add(new Refused("19", "-1 when there is no analysis", "results()", ClosureFlows::results));
        return all;
    }

    /** Nothing is free any more: all lambdas are there, and the call of lambda 0 is full. */
    private void refusedWhenEightAreThere() {
        List<Refused> refused = new ArrayList<>();
        for (int parent = 0; parent < 8; parent++) {
            refused.add(lambda("-1 when .. 8 are there", parent, 1));
        }
        refused.add(put("false when there is no such lambda", 8, 9));
        refused.add(put("false when .. its call has four atoms", 0, 9));
        refused.add(put("false when .. the atom may not stand there", 7, 110));
        check(new Situation("8 are there", RefusalTest::eightLambdas), refused);
    }

    private static ClosureFlows eightLambdas() {
        ClosureFlows flows = Programs.withLambdas(0, 3, 0, 0, 0, 0, 0, 0, 0, 0, 0, 0, 0, 1);
        Programs.call(flows, 0, 201, 207, 8, HALT);
        Programs.call(flows, 1, 110, 111);
        Programs.call(flows, 7, HALT, 170);
        return run(flows, 2, 1);
    }
}
