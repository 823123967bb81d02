/**
 * The answers 2 and 3 where types, forms or side conditions are not met by a hair's breadth, the neighbours that
 * are met, and which answer comes first when more than one of 2, 3 and 4 holds.
 */
final class FitsTest {
    private static final String IDENTITY = "type 0, var 0, type 0, var 0, abs";

    public static void main(String[] args) {
        argumentsOfFunctions();
        argumentsOfEqual();
        formulas();
        forms();
        freeVariablesOfDefinitions();
        typeVariablesOfDefinitions();
        conclusionsOfConversions();
        conclusionsOfCongruences();
        equationsOfAbsThm();
        variablesOfAbsThm();
        typesOfInstances();
        misfitBeforeSideCondition();
        misfitBeforeLength();
        misfitBeforeFullLists();
        misfitBeforeHypotheses();
        sideConditionBeforeRoom();
        allBeforeTheLastCommand();
        Bench.close("FitsTest");
    }

    private static void argumentsOfFunctions() {
        Bench bench = new Bench("promise 5: 2 if the types are not so");
        bench.does("type 0, type 1, type 4, keep 0, type -1, type 4, var 0, keep 1");
        for (String type : new String[] {"type 0", "type 1", "type -1", "type 1, type 0, type 4", "type 0, type 0, type 4",
            "type 1, type 1, type 4", "type 0, type -1, type 4", "fetch 0, type -1, type 4"}) {
            bench.does(type + ", var 0").refuses(2, "app").does("pop");
        }
        bench.does("fetch 0, var 0, app").shows(0, 0, "12 10 0 0 0 2 3 1 10 0 0 2 3").does("fetch 1").refuses(2, "app");
        bench.does("pop, type -1, var 0").refuses(2, "app").does("pop, pop, fetch 0, var 0, fetch 0, var 0").refuses(2, "app");
        bench.does("pop, type 0, var 0, app, type 0, var 0").refuses(2, "app");
        bench.does("pop, pop, type 0, var 0, type 0, var 1, abs, type 1, var 0").refuses(2, "app").does("pop, type 0, var 0, app");
    }

    private static void argumentsOfEqual() {
        Bench bench = new Bench("promise 5: EQUAL at a takes two terms of type a");
        bench.does("type 0, constant 0, type 1, var 0").refuses(2, "app").does("pop, type 0, var 0, app");
        bench.does("type 1, var 0").refuses(2, "app").does("pop, type -1, var 0").refuses(2, "app");
        bench.does("pop, type 0, constant 0").refuses(2, "app").does("pop, type 0, var 0, app, type 0, var 0").refuses(2, "app");
        bench.does("pop, type -1, constant 0").refuses(2, "app");
    }

    private static void formulas() {
        Bench bench = new Bench("promise 7: 2 if t is not of type BOOL");
        for (String term : new String[] {"type 0, var 0", "type 1, var 0", "type 2, var 0", "type 3, var 1",
            "type -1, type -1, type 4, var 0", "type -1, constant 0", "type -1, constant 0, type -1, var 0, app",
            "type -1, var 0, type -1, var 0, abs"}) {
            bench.does(term).refuses(2, "theorem 1").refuses(2, "theorem 3").does("pop");
        }
        bench.answers(0, "count 1").does("type -1, var 0, type -1, var 1, abs, type -1, var 0, app, keep 0, theorem 1");
        bench.answers(1, "hypotheses 0").does("fetch 0, theorem 3").answers(0, "hypotheses 0").answers(1, "count 1");
        bench.does("type 0, constant 0, type 0, var 0, app, type 0, var 0, app, keep 1, theorem 1, fetch 1, theorem 3");
    }

    private static void forms() {
        Bench bench = new Bench("promise 7: BETA takes an abstraction, applied to a term, else 2");
        bench.does(IDENTITY + ", keep 0").refuses(2, "theorem 2").does("pop, type 0, var 0, keep 1").refuses(2, "theorem 2");
        bench.does("pop, type 0, constant 0").refuses(2, "theorem 2").does("fetch 1, app").refuses(2, "theorem 2");
        bench.does("pop, type 0, type 0, type 4, constant 0, fetch 0, app").refuses(2, "theorem 2");
        bench.does("fetch 0, app").refuses(2, "theorem 2").does("pop, fetch 1, fetch 0, abs, fetch 1, app, keep 2, theorem 2");
        bench.does("pop, fetch 2, fetch 1, app").shows(0, 0, "12 12 13 2 13 2 20 10 0 2 10 0 2").refuses(2, "theorem 2");
        bench.does("pop, fetch 1, fetch 2, abs").refuses(2, "theorem 2").does("fetch 1, app, theorem 2");
    }

    private static void freeVariablesOfDefinitions() {
        Bench bench = new Bench("promise 7: 3 if some variable is free in t");
        bench.does("type 0, var 0, keep 0").refuses(3, "theorem 4").does("type 0, var 1, keep 1, abs").refuses(3, "theorem 4");
        bench.does("pop, fetch 1, fetch 0, fetch 1, abs, abs, theorem 4, pop");
        bench.does("fetch 0, type 0, constant 0, fetch 0, app, fetch 1, app, abs").refuses(3, "theorem 4");
        bench.does("keep 3, pop, fetch 1, fetch 3, abs, theorem 4, pop").answers(2, "count 3");
        bench.does("type 0, var 7, type 0, type 0, type 4, var 7, abs").refuses(3, "theorem 4");
        bench.does("pop, fetch 0, fetch 0, abs, fetch 0, app").refuses(3, "theorem 4");
    }

    private static void typeVariablesOfDefinitions() {
        Bench bench = new Bench("promise 7: 3 if a type variable of t's written form is not in t's type");
        for (int k = 0; k <= 3; k++) {
            String bound = "type " + k + ", var 0, keep 0, pop, ";
            bench.does(bound + "type " + k + ", type " + k + ", type 4, constant 0, fetch 0, fetch 0, abs, keep 1, app, fetch 1");
            bench.does("app").refuses(3, "theorem 4").does("keep 2, pop, fetch 0, fetch 2, abs, theorem 4, pop");
            bench.answers(k + 1, "count 3");
        }
        bench.does("type 0, var 0, type 1, constant 0, abs, theorem 4, pop").answers(5, "count 3");
        Bench other = new Bench("promise 7: a type variable of a bound variable deep inside");
        other.does("type -1, var 0, keep 0, type 1, var 0, fetch 0, abs, keep 1, pop, type 1, type -1, type 4, constant 0");
        other.does("fetch 1, app, fetch 1, app, abs").shows(0, 0, "13 1 12 12 11 0 0 3 1 13 3 21 13 3 21").refuses(3, "theorem 4");
        other.does("keep 2, pop, type 1, var 1, fetch 2, abs, theorem 4").answers(1, "count 3");
        other = new Bench("promise 7: a type variable in a defined constant's type");
        other.does(IDENTITY + ", theorem 4, pop, type 0, type 0, type 4, constant 0, constant 1, app, constant 1, app");
        other.shows(0, 0, "12 12 11 0 0 2 2 11 1 0 2 2 11 1 0 2 2").refuses(3, "theorem 4").refuses(2, "constant 2");
        other.does("keep 0, pop, type 0, var 3, fetch 0, abs, theorem 4").answers(2, "count 3");
    }

    private static void conclusionsOfConversions() {
        Bench bench = new Bench("promise 8: EQMP, p is the same as the conclusion of D, else 2");
        bench.does(Recipes.equation("type -1, var 0, keep 0", "type -1, var 1, keep 1") + ", theorem 1, keep 2");
        bench.does("fetch 1, theorem 1").refuses(2, "join 0").does("pop, fetch 2").refuses(2, "join 0");
        bench.does("pop, type -1, var 2, theorem 1").refuses(2, "join 0").does("pop, fetch 0, theorem 1, join 0");
        bench.does("fetch 2").refuses(2, "join 0").does("pop, pop, fetch 0, theorem 1, fetch 0, theorem 1").refuses(2, "join 0");
        bench.does("pop, pop, " + Recipes.type(3) + ", var 0, fetch 0, app, theorem 1, fetch 0, theorem 1").refuses(2, "join 0");
    }

    private static void conclusionsOfCongruences() {
        Bench bench = new Bench("promise 8: APP, f can be applied to x, else 2");
        bench.does("type 0, type 1, type 4, var 0, theorem 0, keep 0, type 0, var 0, theorem 0, keep 1");
        bench.does("fetch 0").refuses(2, "join 1").does("pop, fetch 1").refuses(2, "join 1");
        bench.does("pop, pop, type 1, var 0, theorem 0").refuses(2, "join 1").does("pop, type -1, var 0, theorem 1, keep 2");
        bench.refuses(2, "join 1").does("pop, pop, fetch 2, fetch 1").refuses(2, "join 1");
        bench.does("pop, fetch 2").refuses(2, "join 1").does("pop, pop, fetch 0, fetch 1, join 1").answers(0, "hypotheses 0");
    }

    private static void equationsOfAbsThm() {
        Bench bench = new Bench("promise 9: a conclusion that is an equation, else 2").does("type 0, var 0, keep 0");
        bench.does(Recipes.truth(1) + ", theorem 1").refuses(2, "absThm").does("pop, " + Recipes.formula(9) + ", theorem 3");
        bench.refuses(2, "absThm").does("pop, type -1, var 1, type -1, var 1, abs, type -1, var 1, app, theorem 1");
        bench.refuses(2, "absThm").does("pop, " + Recipes.formula(11) + ", theorem 1, absThm").answers(1, "hypotheses 0");
    }

    private static void variablesOfAbsThm() {
        Bench bench = new Bench("promise 9: 3 if v is free in a hypothesis").does(Recipes.assumed(0, 3) + ", keep 0, pop");
        for (int name = 0; name < 3; name++) {
            bench.does(Recipes.truth(name) + ", fetch 0").refuses(3, "absThm").does("pop, pop, type 0, var " + name);
            bench.does("fetch 0, absThm").answers(3, "hypotheses 0").does("pop");
        }
        bench.does(Recipes.truth(3) + ", fetch 0, absThm").answers(3, "hypotheses 0");
        Bench other = new Bench("promise 9: v may be bound in a hypothesis, and free in the conclusion");
        other.does("type 0, type 0, type 4, constant 0, " + IDENTITY + ", keep 0, app, fetch 0, app, theorem 1, keep 1, pop");
        other.does("type 0, var 0, keep 2, fetch 1, absThm");
        other.showsTheorem("12 12 11 0 0 2 0 2 2 13 2 13 2 20 13 2 13 2 20", "12 12 11 0 0 2 2 13 2 20 13 2 20");
        other.does("pop, fetch 2, fetch 1, fetch 2, theorem 0, join 1");
        other.showsTheorem("12 12 11 0 2 12 13 2 20 10 0 2 12 13 2 20 10 0 2", "12 12 11 0 0 2 2 13 2 20 13 2 20");
        other.does("absThm").answers(1, "hypotheses 0");
        other.shows(0, 0, "12 12 11 0 0 2 2 13 2 12 13 2 20 20 13 2 12 13 2 20 20");
    }

    private static void typesOfInstances() {
        Bench bench = new Bench("promise 10: 2 if the types of v and u differ");
        bench.does("type 0, var 0, theorem 0, keep 0, pop, type 0, type 1, type 4, var 1, keep 1");
        for (String term : new String[] {"type 0, var 0", "type 1, var 1", "type 1, type 0, type 4, var 1",
            "type 0, type 0, type 4, var 1", "type 1, type 1, type 4, var 1", IDENTITY, "type 0, constant 0",
            "fetch 1, type 0, var 0, app"}) {
            bench.does(term + ", fetch 0").refuses(2, "inst").does("pop, pop");
        }
        bench.does("type 0, var 3, type 1, var 1, abs, fetch 0, inst").answers(11, "length 0 0").answers(1, "count 0");
    }

    private static void misfitBeforeSideCondition() {
        Bench bench = new Bench("2 before 3: no equation, and v is free in its hypothesis");
        bench.does("type -1, var 0, keep 0, fetch 0, theorem 1").refuses(2, "absThm");
        bench.does("pop, " + Recipes.type(3) + ", var 1, fetch 0, app, theorem 1").refuses(2, "absThm");
        bench.does("pop, " + Recipes.equation("fetch 0", "fetch 0") + ", theorem 1").refuses(3, "absThm");
    }

    private static void misfitBeforeLength() {
        Bench bench = new Bench("2 before 4: too long as well").does(Recipes.formula(39) + ", keep 0, pop");
        bench.does("type 0, type 0, type 4, var 0, fetch 0").refuses(2, "app").does("pop, type 0, var 0, fetch 0");
        bench.does("type 0, var 0, theorem 0").refuses(2, "inst");
        bench.does("pop, pop, pop, pop, " + Recipes.type(15) + ", type 0, var 0, theorem 0");
        bench.refuses(4, "instType 0").refuses(2, "instType 4").refuses(2, "instType -1");
        bench = new Bench("2 before 4: joins of what is too long").does(Recipes.formula(17) + ", theorem 0, keep 0, fetch 0");
        bench.refuses(4, "join 2").refuses(2, "join 0").refuses(2, "join 1").refuses(2, "join 3").refuses(2, "join -1");
        bench.does("pop, pop, " + Recipes.formula(39)).refuses(4, "theorem 0").refuses(2, "theorem 2").refuses(2, "theorem 5");
    }

    private static void misfitBeforeFullLists() {
        Bench bench = new Bench("2 before 4: the list of what was assumed is full").does("type -1, var 0, keep 0, pop");
        bench.does(Recipes.repeated(5, "fetch 0, theorem 3, pop") + ", type 0, var 0").refuses(2, "theorem 3");
        bench.does("pop, fetch 0").refuses(4, "theorem 3");
        bench = new Bench("1 before 4: the list of what was exported is full").does("type -1, var 0, keep 0, pop");
        bench.does(Recipes.repeated(5, "fetch 0, theorem 1, export")).refuses(1, "export").does("fetch 0").refuses(1, "export");
        bench.does("theorem 1").refuses(4, "export");
    }

    private static void misfitBeforeHypotheses() {
        Bench bench = new Bench("2 before 4: four hypotheses as well").does(Recipes.assumed(0, 2) + ", " + Recipes.assumed(2, 2));
        bench.refuses(4, "join 2").refuses(2, "join 0").refuses(2, "join 1").refuses(2, "join 3").refuses(2, "join -1");
    }

    private static void sideConditionBeforeRoom() {
        Bench bench = new Bench("3 before 4: v is free, and it is too long").does(Recipes.type(5) + ", var 0, keep 0, pop");
        bench.does("type -1, var 5, " + Recipes.formula(17) + ", theorem 0").refuses(4, "absThm").does("pop");
        bench.does(Recipes.equation(Recipes.formula(15), Recipes.formula(15)) + ", theorem 1").refuses(3, "absThm");
        bench.does("pop, pop, fetch 0, " + Recipes.equation(Recipes.formula(9), Recipes.formula(9)) + ", theorem 1");
        bench.refuses(4, "absThm");
        bench = new Bench("3 before 4: DEFINE that is too long, or has six constants before it");
        bench.does(Recipes.formula(39)).refuses(3, "theorem 4").does("pop, type -1, constant 0, keep 0, pop");
        bench.does(Recipes.repeated(6, "fetch 0, theorem 4, pop")).answers(6, "count 3");
        bench.does("type 0, var 0").refuses(3, "theorem 4").does("pop, type 0, type 0, type 4, constant 0");
        bench.does(IDENTITY + ", app, " + IDENTITY + ", app").refuses(3, "theorem 4").does("pop, fetch 0").refuses(4, "theorem 4");
    }

    /** After 120 commands the answers 1 to 3 come first as well: with numbers in NumbersTest and ObjectsTest. */
    private static void allBeforeTheLastCommand() {
        tired("type 0, var 0", "type 0, var 0").refuses(2, "app").refuses(4, "abs").refuses(2, "theorem 1");
        tired("type 0, var 0", "type 0, var 0").refuses(2, "theorem 2").refuses(2, "theorem 3").refuses(3, "theorem 4");
        tired("type -1, var 0, theorem 1", "type -1, var 0, theorem 1").refusesAll(2, "join 0, join 1").refuses(4, "join 2");
        tired("type -1, var 0", "type -1, var 0, theorem 1").refuses(2, "absThm").refuses(4, "export");
        tired("type 0, var 0", "type 0, var 0, theorem 0").refuses(4, "absThm").refuses(1, "inst");
        tired("type -1, var 5", Recipes.formula(11) + ", theorem 1").refuses(3, "absThm").refuses(1, "app");
        tired("type 0, var 0, type 1, var 0", "type 0, var 0, theorem 0").refuses(2, "inst");
        tired("type 0, var 0, type 0, var 1", "type 0, var 0, theorem 0").refuses(4, "inst").refuses(1, "instType 0");
    }

    private static Bench tired(String first, String second) {
        int needed = Recipes.calls(first).size() + Recipes.calls(second).size();
        Bench bench = new Bench("no command left after " + first + ", " + second);
        return bench.does(Recipes.idle(Recipes.MOST_COMMANDS - needed)).does(first).does(second).answers(120, "count 4");
    }
}
