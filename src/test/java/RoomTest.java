import java.util.List;

/** The answer 4 of every command: what has just room is done, what has none is refused and changes nothing. */
final class RoomTest {
    private static final String PREDICATE = "type 0, type -1, type 4, var 0, type 0, var 0, app";

    public static void main(String[] args) {
        commands();
        refusedCallsAreNoCommands();
        fullStack();
        longTypes();
        longTypesInsideTerms();
        longApplications();
        longAbstractions();
        longReflexivities();
        longReductions();
        longDefinitions();
        longConversions();
        longCongruences();
        longDeductions();
        longAbstractionsOfTheorems();
        longInstances();
        longHypothesesOfInstances();
        longTypeInstances();
        longHypothesesOfTypeInstances();
        manyHypothesesOfConversions();
        manyHypothesesOfCongruences();
        manyHypothesesOfDeductions();
        threeHypothesesElsewhere();
        listOfAssumed();
        listOfExported();
        manyConstants();
        Bench.close("RoomTest");
    }

    /** 120 commands were done already: every command is done as the 120th, and none as the 121st. */
    private static void commands() {
        for (Ready ready : Ready.all()) {
            List<String> pushes = ready.pushes(ready.taken());
            Bench bench = ready.machine("as the last command", 1, pushes, Recipes.MOST_COMMANDS - 1);
            bench.answers(0, ready.call()).answers(Recipes.MOST_COMMANDS, "count 4").refuses(4, "type 0");
            bench.refuses(4, "pop").refuses(4, "type -1");
            bench = ready.machine("after the last command", 1, pushes, Recipes.MOST_COMMANDS);
            bench.refuses(4, ready.call()).refuses(4, ready.call()).answers(Recipes.MOST_COMMANDS, "count 4");
        }
    }

    private static void refusedCallsAreNoCommands() {
        Bench bench = new Bench("refused calls and questions are no commands");
        for (int i = 0; i < 50; i++) {
            bench.answers(2, "type 5").answers(1, "pop").answers(0, "count 4").answers(2, "fetch 0");
        }
        bench.does(Recipes.idle(119)).answers(119, "count 4").answers(1, "app").does("type 0").answers(120, "count 4");
        bench.refuses(4, "pop").refuses(4, "keep 0").refuses(1, "app").refuses(2, "fetch 0").answers(1, "count 0");
    }

    /** A command is done on a full stack unless it puts more than it takes. */
    private static void fullStack() {
        for (Ready ready : Ready.all()) {
            List<String> pushes = ready.pushes(ready.taken());
            int below = Recipes.MOST_OBJECTS - ready.taken();
            Bench bench = ready.machine("on a full stack", below, pushes).answers(12, "count 0");
            if (ready.puts() > ready.taken()) {
                bench.refuses(4, ready.call()).does("pop").answers(11, "count 0");
                bench.answers(0, ready.call()).answers(12, "count 0").refuses(4, ready.call());
            } else {
                bench.answers(0, ready.call()).answers(below + ready.puts(), "count 0");
                bench.shows(ready.puts(), 0, "4").shows(below + ready.puts() - 1, 0, "4");
            }
        }
    }

    private static void longTypes() {
        Bench bench = new Bench("types of 15 symbols and more").does(Recipes.type(15) + ", keep 0").answers(15, "length 0 0");
        bench.does("type -1").refuses(4, "type 4").does("pop, pop, type 3, fetch 0").refuses(4, "type 4");
        bench.does("pop, pop, " + Recipes.type(7) + ", keep 1, fetch 1, type 4").answers(15, "length 0 0");
        bench.does("pop, fetch 1, " + Recipes.type(9) + ", keep 2").refuses(4, "type 4");
        bench.does("fetch 1").refuses(4, "type 4").does("fetch 0").refuses(4, "type 4");
        bench.does("pop, " + Recipes.type(5) + ", type 4").answers(13, "length 0 0");
        bench.does("type 2, type 4").answers(15, "length 0 0");
        bench.does("fetch 0").answers(15, "length 0 0").does("keep 3").answers(15, "length 103 0");
    }

    /** The limit of 15 symbols is one of the types that lie on the stack. */
    private static void longTypesInsideTerms() {
        Bench bench = new Bench("terms of types with 15 symbols and more").does(Recipes.type(15) + ", keep 0, var 7");
        bench.answers(17, "length 0 0").does("keep 1, fetch 0, constant 0").answers(17, "length 0 0");
        bench.does("fetch 1, app").answers(35, "length 0 0");
        bench.does("pop, fetch 1, fetch 0, constant 0, abs").answers(33, "length 0 0").does("keep 2, pop");
        bench.does("fetch 2, fetch 1").refuses(4, "app");
    }

    private static void longApplications() {
        Bench bench = new Bench("applications of 39 symbols and more").does(Recipes.type(3) + ", var 0, keep 0");
        bench.does(Recipes.formula(33) + ", keep 1, app").answers(39, "length 0 0");
        bench.does("pop, fetch 0, " + Recipes.formula(35) + ", keep 2").refuses(4, "app");
        bench.does("pop, pop, type -1, constant 0, fetch 1").answers(33, "length 0 0").does("app").answers(37, "length 0 0");
        bench.does("pop, type -1, constant 0, fetch 2, app").answers(39, "length 0 0").does("fetch 1").refuses(4, "app");
        bench = new Bench("far too long applications").does(Recipes.formula(39) + ", keep 0, pop, type -1, constant 0, fetch 0");
        bench.refuses(4, "app").does("pop, pop, " + Recipes.type(3) + ", var 0, fetch 0").refuses(4, "app");
    }

    private static void longAbstractions() {
        Bench bench = new Bench("abstractions of 39 symbols and more").does(Recipes.formula(27) + ", keep 0, pop");
        bench.does(Recipes.type(11) + ", var 0, fetch 0, abs").answers(39, "length 0 0");
        bench.does(Recipes.type(13) + ", var 0, fetch 0").refuses(4, "abs");
        bench.does("pop, " + Recipes.formula(39) + ", keep 1").refuses(4, "abs");
        bench.does("pop, pop, type -1, var 5, fetch 1, abs").answers(39, "length 0 0");
        bench.does("keep 2, pop, type 0, var 0, fetch 2").refuses(4, "abs");
    }

    private static void longReflexivities() {
        Bench bench = new Bench("REFL of 39 symbols and more").does(Recipes.formula(17) + ", theorem 0");
        bench.answers(39, "length 0 0").does("pop, type -1, var 0, " + Recipes.formula(15) + ", abs").answers(17, "length 0 0");
        bench.refuses(4, "theorem 0").does("pop, " + Recipes.type(11) + ", var 0").refuses(4, "theorem 0");
        bench.does("pop, " + Recipes.formula(39)).refuses(4, "theorem 0").does("theorem 1").answers(39, "length 0 1");
        bench.does(Recipes.type(9) + ", var 0, theorem 0").answers(35, "length 0 0");
    }

    private static void longReductions() {
        Bench bench = new Bench("BETA of 39 symbols and more").does("type -1, var 0, type -1, var 0, abs, keep 0, pop");
        bench.does("fetch 0, " + Recipes.formula(15) + ", app, theorem 2").answers(39, "length 0 0");
        bench.does("fetch 0, " + Recipes.formula(17) + ", app").refuses(4, "theorem 2");
        bench.does("pop, " + Recipes.type(13) + ", var 0, keep 1, type -1, var 0, abs, fetch 1, app").refuses(4, "theorem 2");
        bench = new Bench("BETA that makes many copies").does("type -1, var 0, keep 0, type -1, constant 0, keep 1, pop");
        bench.does("fetch 1, fetch 1, fetch 0, app, fetch 0, app, app, fetch 0, app, abs, " + Recipes.formula(23) + ", app");
        bench.answers(39, "length 0 0").refuses(4, "theorem 2");
    }

    private static void longDefinitions() {
        Bench bench = new Bench("DEFINE of 39 symbols and more").does(Recipes.closed(27)).answers(27, "length 0 0");
        bench.does("theorem 4").answers(39, "length 0 0").answers(1, "count 3").does("pop, " + Recipes.closed(29));
        bench.answers(29, "length 0 0").refuses(4, "theorem 4").refuses(2, "constant 2");
        bench.does("pop, " + Recipes.type(7) + ", constant 0").refuses(4, "theorem 4").refuses(2, "constant 2");
        bench.does("pop, type -1, constant 0, theorem 4").answers(2, "symbol 0 0 10").answers(2, "count 3");
    }

    /** What comes of EQMP is shorter than what it comes of, so it always has room. */
    private static void longConversions() {
        Bench bench = new Bench("EQMP from 39 symbols").does(Recipes.equation(Recipes.truth(0), Recipes.formula(31)));
        bench.answers(39, "length 0 0").does("theorem 1, " + Recipes.truth(0) + ", theorem 1, join 0");
        bench.answers(31, "length 0 0").answers(3, "length 0 1").answers(39, "length 0 2");
    }

    private static void longCongruences() {
        Bench bench = new Bench("APP of 39 symbols and more").does(Recipes.type(3) + ", var 0, theorem 0, keep 0");
        bench.does(Recipes.formula(11) + ", theorem 0, join 1").answers(39, "length 0 0").does("pop, fetch 0");
        bench.does(Recipes.equation(Recipes.formula(9), Recipes.formula(15)) + ", theorem 1").refuses(4, "join 1");
        bench.does("pop, " + Recipes.formula(15) + ", theorem 0").refuses(4, "join 1");
        bench = new Bench("APP far too long").does("type -1, constant 0, " + Recipes.formula(9) + ", app, keep 0, theorem 0");
        bench.answers(33, "length 0 0").does(Recipes.formula(17) + ", theorem 0").refuses(4, "join 1");
    }

    private static void longDeductions() {
        Bench bench = new Bench("DEDUCT of 39 symbols and more").does(Recipes.formula(17) + ", theorem 1, keep 0, fetch 0");
        bench.does("join 2").answers(39, "length 0 0").does(Recipes.formula(19) + ", theorem 1, keep 1, fetch 0");
        bench.refuses(4, "join 2").does("pop, pop, fetch 0, fetch 1").refuses(4, "join 2");
        bench.does("pop, pop, " + Recipes.formula(39) + ", theorem 1").refuses(4, "join 2");
    }

    private static void longAbstractionsOfTheorems() {
        Bench bench = new Bench("absThm of 39 symbols and more").does(Recipes.type(3) + ", var 0, keep 0");
        bench.does(Recipes.formula(11) + ", theorem 0, absThm").answers(39, "length 0 0").does("pop, fetch 0");
        bench.does(Recipes.equation(Recipes.formula(9), Recipes.formula(15)) + ", theorem 1").refuses(4, "absThm");
        bench.does("pop, pop, " + Recipes.type(5) + ", var 0, " + Recipes.formula(9) + ", theorem 0").refuses(4, "absThm");
        bench = new Bench("absThm that makes no more of it").does("type -1, var 5, " + Recipes.formula(17) + ", theorem 0");
        bench.answers(39, "length 0 0").refuses(4, "absThm");
    }

    /** The theorem "f x", without hypotheses, has 9 symbols, of which x has 3. */
    private static void longInstances() {
        String applied = Recipes.type(3) + ", var 7, " + Recipes.truth(0) + ", app, theorem 3, keep 0, pop, ";
        Bench bench = new Bench("inst with a conclusion of 39 symbols").does(applied + Recipes.truth(0));
        bench.does(Recipes.formula(33) + ", fetch 0, inst").answers(39, "length 0 0").answers(0, "hypotheses 0");
        bench = new Bench("inst with a conclusion of 41 symbols").does(applied + Recipes.truth(0));
        bench.does(Recipes.formula(35) + ", fetch 0").refuses(4, "inst");
        bench = new Bench("inst with a conclusion that is far too long").does("type -1, var 5, " + Recipes.formula(39));
        bench.does(Recipes.formula(17) + ", theorem 0").refuses(4, "inst");
        bench = new Bench("inst by a long term of what is not free").does("type -1, var 3, " + Recipes.formula(39));
        bench.does(Recipes.formula(17) + ", theorem 0, inst").answers(39, "length 0 0");
    }

    private static void longHypothesesOfInstances() {
        String twoHypotheses = ", " + Recipes.equation(Recipes.truth(0), Recipes.truth(1)) + ", theorem 1, "
                + Recipes.truth(0) + ", theorem 1, join 0";
        Bench bench = new Bench("inst with a hypothesis of 39 symbols");
        bench.does("type -1, var 0, " + Recipes.formula(31) + twoHypotheses + ", inst");
        bench.answers(3, "length 0 0").answers(31, "length 0 1").answers(39, "length 0 2");
        bench = new Bench("inst with a hypothesis of 41 symbols");
        bench.does("type -1, var 0, " + Recipes.formula(33) + twoHypotheses).refuses(4, "inst");
    }

    /** "P x" has 9 symbols, two of them the type variable: 25 with a type of 9 symbols. */
    private static void longTypeInstances() {
        Bench bench = new Bench("instType with a conclusion of 39 symbols").does(Recipes.type(9));
        bench.does(Recipes.equation(Recipes.formula(9), PREDICATE) + ", theorem 3, instType 0").answers(39, "length 0 0");
        bench = new Bench("instType with a conclusion of 41 symbols").does(Recipes.type(9));
        bench.does(Recipes.equation(Recipes.formula(11), PREDICATE) + ", theorem 3").refuses(4, "instType 0");
        bench.does("instType 1").answers(25, "length 0 0");
        bench = new Bench("instType by 15 symbols").does("type 0, var 0, theorem 0, keep 0, pop, " + Recipes.type(15));
        bench.does("keep 1, fetch 0").refuses(4, "instType 0").does("instType 1").answers(11, "length 0 0");
        bench.does(Recipes.type(9) + ", fetch 0, instType 0").answers(35, "length 0 0");
        bench.does("pop, " + Recipes.type(11) + ", fetch 0").refuses(4, "instType 0");
        bench.does("pop, pop, fetch 1, " + PREDICATE + ", theorem 3, instType 0").answers(37, "length 0 0");
    }

    private static void longHypothesesOfTypeInstances() {
        Bench bench = new Bench("instType with a hypothesis of 39 symbols").does(Recipes.type(9));
        bench.does(Recipes.equation(Recipes.formula(9), PREDICATE) + ", theorem 1");
        bench.does(Recipes.formula(9) + ", theorem 3, join 0, instType 0").answers(25, "length 0 0").answers(39, "length 0 1");
        bench = new Bench("instType with a hypothesis of 41 symbols").does(Recipes.type(9));
        bench.does(Recipes.equation(Recipes.formula(11), PREDICATE) + ", theorem 1");
        bench.does(Recipes.formula(11) + ", theorem 3, join 0").answers(9, "length 0 0").refuses(4, "instType 0");
    }

    /** With the variables a, b, c: key 0 has the theorem b = c of the hypotheses a and a = (b = c). */
    private static void manyHypothesesOfConversions() {
        Bench bench = new Bench("hypotheses of EQMP");
        bench.does(Recipes.equation(Recipes.truth(0), Recipes.equation(Recipes.truth(1), Recipes.truth(2))));
        bench.does("theorem 1, " + Recipes.truth(0) + ", theorem 1, join 0, keep 0").answers(2, "hypotheses 0");
        bench.does(Recipes.truth(1) + ", theorem 1, join 0, keep 1");
        bench.showsTheorem("10 2 1", "10 0 1", "10 1 1", "12 12 11 0 1 10 0 1 12 12 11 0 1 10 1 1 10 2 1");
        bench.does("pop, fetch 0, " + Recipes.equation(Recipes.truth(3), Recipes.truth(1)) + ", theorem 1");
        bench.does(Recipes.truth(3) + ", theorem 1, join 0").answers(2, "hypotheses 0").refuses(4, "join 0");
        bench.does("pop, " + Recipes.equation(Recipes.truth(0), Recipes.truth(1)) + ", theorem 1, " + Recipes.truth(0));
        bench.does("theorem 1, join 0").answers(2, "hypotheses 0").does("join 0").answers(3, "hypotheses 0");
        bench.does("keep 2, " + Recipes.equation(Recipes.truth(2), Recipes.truth(4)) + ", theorem 1, fetch 2");
        bench.refuses(4, "join 0").does("pop, " + Recipes.truth(2) + ", theorem 3, join 0").answers(1, "hypotheses 0");
        bench.does(Recipes.truth(2) + ", theorem 0, fetch 2, join 0").answers(3, "hypotheses 0");
    }

    private static void manyHypothesesOfCongruences() {
        Bench bench = new Bench("hypotheses of APP").does(Recipes.type(3) + ", constant 0, " + Recipes.type(3) + ", var 0, app");
        bench.does(Recipes.type(3) + ", var 1, app, theorem 1, keep 0, " + Recipes.assumed(0, 2) + ", keep 1, join 1");
        bench.answers(3, "hypotheses 0").does("fetch 0, " + Recipes.assumed(2, 3)).answers(3, "hypotheses 0");
        bench.refuses(4, "join 1").does("pop, fetch 1, join 1").answers(3, "hypotheses 0");
        bench = new Bench("hypotheses of APP that are the same").does(Recipes.type(3) + ", constant 0");
        bench.does(Recipes.type(3) + ", var 0, app, " + Recipes.type(3) + ", var 1, app, keep 0, pop");
        bench.does(Recipes.equation(Recipes.truth(0), "fetch 0") + ", theorem 1, type -1, var 0, theorem 1, join 0, keep 1");
        bench.answers(2, "hypotheses 0").does(Recipes.assumed(1, 2)).refuses(4, "join 1").does("pop, " + Recipes.assumed(0, 2));
        bench.does("join 1").answers(3, "hypotheses 0").shows(0, 1, "10 0 1").shows(0, 2, "10 1 1");
    }

    /** With p = x0, q = x1: hypotheses that DEDUCT leaves out are not counted. */
    private static void manyHypothesesOfDeductions() {
        Bench bench = new Bench("hypotheses of DEDUCT").does(Recipes.assumed(0, 2) + ", keep 0, " + Recipes.assumed(2, 1));
        bench.does("join 2").answers(3, "hypotheses 0").does("keep 1, " + Recipes.assumed(3, 1)).refuses(4, "join 2");
        bench.does("pop, " + Recipes.assumed(1, 1) + ", join 2").answers(3, "hypotheses 0");
        bench.does("pop, fetch 0, " + Recipes.assumed(2, 2)).refuses(4, "join 2");
        bench.does("pop, fetch 1, join 2").answers(3, "hypotheses 0");
        bench = new Bench("six hypotheses of DEDUCT").does(conditional(2, 1, 0) + ", " + conditional(3, 5, 4)).refuses(4, "join 2");
        String first = conditional(2, 1, 0);
        bench = new Bench("what DEDUCT leaves out of three and two").does(first + ", " + implied(0, 1)).answers(2, "hypotheses 0");
        bench.answers(3, "hypotheses 1").does("join 2").answers(3, "hypotheses 0");
        bench = new Bench("what DEDUCT leaves out of three and three").does(first + ", " + conditional(3, 0, 1));
        bench.answers(3, "hypotheses 0").answers(3, "hypotheses 1").refuses(4, "join 2");
    }

    /** "a, a = (p = q), p has q". */
    private static String conditional(int a, int p, int q) {
        String equation = Recipes.equation(Recipes.truth(p), Recipes.truth(q));
        return Recipes.equation(Recipes.truth(a), equation) + ", theorem 1, " + Recipes.truth(a) + ", theorem 1, join 0, "
                + Recipes.truth(p) + ", theorem 1, join 0";
    }

    /** "p, p = q has q". */
    private static String implied(int p, int q) {
        String equation = Recipes.equation(Recipes.truth(p), Recipes.truth(q));
        return equation + ", theorem 1, " + Recipes.truth(p) + ", theorem 1, join 0";
    }

    private static void threeHypothesesElsewhere() {
        Bench bench = new Bench("three hypotheses in the other rules").does(Recipes.assumed(0, 3) + ", keep 0, pop");
        bench.does("type -1, var 4, fetch 0, absThm").answers(3, "hypotheses 0").does("pop, type -1, var 0, type -1, var 4");
        bench.does("fetch 0, inst").answers(3, "hypotheses 0").shows(0, 1, "10 1 1").shows(0, 3, "10 4 1");
        bench.does("pop, type -1, var 0, type -1, var 1, fetch 0, inst").answers(2, "hypotheses 0").does("keep 1, pop");
        bench.does("type -1, var 2, type -1, var 1, fetch 1, inst").answers(1, "hypotheses 0");
        bench.does("pop, type 0, fetch 0, instType 0").answers(3, "hypotheses 0").does("export").answers(3, "hypotheses 300");
    }

    private static void listOfAssumed() {
        Bench bench = new Bench("the list of what was assumed").does("type -1, var 0, keep 0, pop");
        for (int i = 1; i <= 5; i++) {
            bench.answers(-1, "kind " + (199 + i)).does("fetch 0, theorem 3, pop").answers(i, "count 1");
        }
        bench.answers(2, "kind 204").does("fetch 0").refuses(4, "theorem 3").answers(-1, "kind 205").answers(5, "count 1");
        bench.does("pop, type -1, var 1").refuses(4, "theorem 3").does("theorem 1, export, fetch 0, theorem 0");
        bench.does("type 0, var 0").refuses(2, "theorem 3").answers(1, "count 2");
    }

    private static void listOfExported() {
        Bench bench = new Bench("the list of what was exported").does("type -1, var 0, keep 0, theorem 1, keep 1, pop");
        for (int i = 1; i <= 5; i++) {
            bench.answers(-1, "kind " + (299 + i)).does("fetch 1, export").answers(i, "count 2");
        }
        bench.answers(2, "kind 304").does("fetch 1").refuses(4, "export").answers(-1, "kind 305").answers(5, "count 2");
        bench.does("fetch 0").refuses(1, "export").does("theorem 3").refuses(4, "export").answers(1, "count 1");
    }

    private static void manyConstants() {
        Bench bench = new Bench("six constants").does("type 0, constant 0, keep 0, pop");
        for (int i = 1; i <= 6; i++) {
            bench.does("fetch 0, theorem 4").answers(i, "symbol 0 0 10").answers(i, "count 3");
            bench.does("pop, constant " + i + ", pop");
        }
        bench.does("fetch 0").refuses(4, "theorem 4").refuses(2, "constant 7").does("constant 6");
        bench.shows(0, 0, "11 6 0 2 0 2 1").refuses(4, "theorem 4").does("theorem 0").answers(6, "count 3");
    }
}
