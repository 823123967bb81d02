/** The document from its first line up to the promises, sentence by sentence: each is quoted, and tested. */
final class DocumentTest {
    /** The keys 0 to 2 have the variables x, y and z of type variable 0, 3 has f from it to itself; the stack is empty. */
    private static final String VARIABLES = "type 0, var 0, keep 0, type 0, var 1, keep 1, type 0, var 2, keep 2,"
            + "type 0, type 0, type 4, var 3, keep 3, pop, pop, pop, pop";
    private static final String IDENTITY = "type 0, var 0, type 0, var 0, abs";

    public static void main(String[] args) {
        whatItMakes();
        numberOfCalls();
        types();
        variables();
        equal();
        definedConstants();
        typesOfApplications();
        typesOfAbstractions();
        freeAndBound();
        sameTerms();
        equations();
        writtenTypes();
        writtenVariables();
        writtenBoundVariables();
        writtenConstants();
        writtenApplicationsAndAbstractions();
        hypothesesAndConclusions();
        orderOfHypotheses();
        replacedVariables();
        replacedTypeVariables();
        replacementsInTheorems();
        limitsOfStores();
        leastAnswer();
        wrongObjects();
        misfits();
        sideConditions();
        noRoom();
        takingAndPutting();
        Bench.close("DocumentTest");
    }

    private static void whatItMakes() {
        for (Ready ready : Ready.all()) {
            Bench bench = Document.says("A machine with a stack that makes types, terms and theorems of higher-order "
                    + "logic, lets theorems come about by a few rules alone, and keeps a dictionary, a list of what "
                    + "was assumed and a list of what was exported.");
            bench.does(ready.prepare()).does(String.join(", ", ready.pushes(ready.taken()))).does(ready.call());
            String name = ready.call().split(" ")[0];
            if (name.equals("type")) {
                bench.answers(0, "kind 0");
            } else if ("var constant app abs".contains(name)) {
                bench.answers(1, "kind 0");
            } else if ("theorem join absThm instType".contains(name)) {
                bench.answers(2, "kind 0");
            }
            bench.answers(ready.call().equals("theorem 3") ? 1 : 0, "count 1");
            bench.answers(name.equals("export") ? 1 : 0, "count 2");
        }
    }

    private static void numberOfCalls() {
        String sentence = "An object is used for at most 512 calls after it has been made; what later calls answer is "
                + "free.";
        Document.says(sentence);
        SequentMachine machine = new SequentMachine();
        for (int call = 1; call <= 511; call++) {
            boolean isCommand = call > 511 - 119;
            int got = !isCommand ? machine.count(4) : call % 2 == 1 ? machine.type(3) : machine.pop();
            Bench.check(sentence + " Call " + call, got, 0);
        }
        Bench.check(sentence + " Call 512", machine.symbol(0, 0, 0), 5);
        for (int call = 513; call <= 2000; call++) {
            machine.type(call % 5);
            machine.symbol(call % 12, 0, call % 41);
        }
    }

    private static void types() {
        Bench bench = Document.says("TYPES: BOOL; the type variables 0 .. 3; for types a and b the FUNCTION a to b.");
        bench.does("type -1").shows(0, 0, "1").answers(0, "kind 0");
        for (int k = 0; k <= 3; k++) {
            bench.does("type " + k).shows(0, 0, String.valueOf(2 + k)).answers(0, "kind 0");
        }
        bench.refuses(2, "type 5").refuses(2, "type -2");
        bench.does("type 4").shows(0, 0, "0 4 5").does("type 4").shows(0, 0, "0 3 0 4 5").answers(0, "kind 0");
        bench.does("keep 0, type 4, fetch 0, type 4").shows(0, 0, "0 0 2 0 3 0 4 5 0 3 0 4 5").answers(2, "count 0");
    }

    private static void variables() {
        Bench bench = Document.says("TERMS have each a type: a VARIABLE has a name (0 .. 7) and a type (variables of "
                + "the same name and different types are different);");
        for (int name = 0; name <= 7; name++) {
            bench.does("type 1, var " + name).shows(0, 0, "10 " + name + " 3").answers(1, "kind 0").does("pop");
        }
        bench.does("type 1").refuses(2, "var 8").refuses(2, "var -1").does("pop");
        bench.does("type 0, var 3, type 1, var 3, abs").shows(0, 0, "13 2 10 3 3");
        bench.does("type 0, var 3, type 0, var 4, type 1, var 3, theorem 0, inst");
        bench.showsTheorem("12 12 11 0 3 10 3 3 10 3 3");
        bench.does("type -1, constant 0, type -1, var 3, app, type -1, var 4, app, theorem 1, keep 0, pop");
        bench.does("type 0, var 3, fetch 0, absThm, type -1, var 3, fetch 0").refuses(3, "absThm");
    }

    private static void equal() {
        String sentence = "a CONSTANT has a number and a type: constant 0, EQUAL at a type a, is a function from a to "
                + "(the function from a to BOOL);";
        String[][] types = {{"type -1", "1"}, {"type 2", "4"}, {"type 0, type 1, type 4", "0 2 3"}};
        for (String[] type : types) {
            String a = type[1];
            Bench bench = Document.says(sentence).does(type[0] + ", constant 0, keep 0").shows(0, 0, "11 0 " + a);
            bench.does("theorem 0").shows(0, 0, "12 12 11 0 0 " + a + " 0 " + a + " 1 11 0 " + a + " 11 0 " + a);
            bench.does("fetch 0, " + type[0] + ", var 5, keep 1, app").refuses(2, "theorem 1");
            bench.does("fetch 1, app, theorem 1").shows(0, 0, "12 12 11 0 " + a + " 10 5 " + a + " 10 5 " + a);
        }
    }

    private static void definedConstants() {
        Bench bench = Document.says("constants 1, 2, .. (at most 6) are defined by DEFINE, whose constant has first "
                + "its definition's type, and after instType() such types as come of that;");
        bench.does(IDENTITY + ", keep 0, theorem 4, keep 1").showsTheorem("12 12 11 0 0 2 2 11 1 0 2 2 13 2 20");
        bench.does("constant 1").shows(0, 0, "11 1 0 2 2").does("pop, pop");
        bench.does("type 1, type -1, type 4, fetch 1, instType 0, keep 2");
        bench.showsTheorem("12 12 11 0 0 0 3 1 0 3 1 11 1 0 0 3 1 0 3 1 13 0 3 1 20");
        bench.does("pop, type -1, fetch 2, instType 1");
        bench.showsTheorem("12 12 11 0 0 0 1 1 0 1 1 11 1 0 0 1 1 0 1 1 13 0 1 1 20");
        bench.does("constant 1").shows(0, 0, "11 1 0 2 2").shows(101, 0, "12 12 11 0 0 2 2 11 1 0 2 2 13 2 20");
        bench.does("pop, pop, " + Recipes.repeated(5, "fetch 0, theorem 4, pop")).answers(6, "count 3");
        bench.does("constant 6").shows(0, 0, "11 6 0 2 2").does("fetch 0").refuses(4, "theorem 4").refuses(2, "constant 7");
    }

    private static void typesOfApplications() {
        Bench bench = Document.says("an APPLICATION of a term f, of type a to b, to a term x of type a has the type b;");
        bench.does("type 0, type 1, type 4, var 0, type 0, var 1, app, theorem 0");
        bench.showsTheorem("12 12 11 0 3 12 10 0 0 2 3 10 1 2 12 10 0 0 2 3 10 1 2");
        bench.does("type 2, constant 0, type 2, var 0, app, theorem 0");
        bench.showsTheorem("12 12 11 0 0 4 1 12 11 0 4 10 0 4 12 11 0 4 10 0 4");
        bench.does("type 0, var 0, type 1, var 1, abs, type 0, var 2, app, theorem 0");
        bench.showsTheorem("12 12 11 0 3 12 13 2 10 1 3 10 2 2 12 13 2 10 1 3 10 2 2");
        bench.does("type 0, type 1, type -1, type 4, type 4, var 0, type 0, var 0, app").refuses(2, "theorem 1");
        bench.does("type 1, var 0, app, theorem 1").answers(15, "length 0 0").answers(1, "hypotheses 0");
        bench.does("type 0, type -1, type 4, var 0, keep 0, fetch 0, abs, fetch 0, app, type 0, var 0, app, theorem 1");
        bench.showsTheorem("12 12 13 0 2 1 20 10 0 0 2 1 10 0 2", "12 12 13 0 2 1 20 10 0 0 2 1 10 0 2");
    }

    private static void typesOfAbstractions() {
        Bench bench = Document.says("an ABSTRACTION of a variable v over a term t has the type v's type to t's type.");
        bench.does("type 0, var 0, type 1, var 1, abs, theorem 0");
        bench.showsTheorem("12 12 11 0 0 2 3 13 2 10 1 3 13 2 10 1 3");
        bench.does(IDENTITY + ", theorem 0").showsTheorem("12 12 11 0 0 2 2 13 2 20 13 2 20");
        bench.does("type 0, var 0, type 1, var 1, type 0, var 0, abs, abs, theorem 0");
        bench.showsTheorem("12 12 11 0 0 2 0 3 2 13 2 13 3 21 13 2 13 3 21");
        bench.does("type 0, var 0, type 2, constant 0, type 2, var 2, app, abs, theorem 0");
        bench.showsTheorem("12 12 11 0 0 2 0 4 1 13 2 12 11 0 4 10 2 4 13 2 12 11 0 4 10 2 4");
        bench.does("type 0, type 1, type 4, var 0, type 0, type 1, type 4, var 0, type 0, var 0, app, abs, theorem 0");
        bench.showsTheorem("12 12 11 0 0 0 2 3 3 13 0 2 3 12 20 10 0 2 13 0 2 3 12 20 10 0 2");
    }

    private static void freeAndBound() {
        String sentence = "A variable is FREE in a term where it stands in it outside of all abstractions of it; in an "
                + "abstraction of it it is BOUND.";
        Bench bench = Document.says(sentence).does(VARIABLES).does("fetch 0, fetch 0, abs, fetch 0, app, keep 4");
        bench.shows(0, 0, "12 13 2 20 10 0 2").refuses(3, "theorem 4").does("pop");
        bench.does("fetch 0, fetch 4, abs").shows(0, 0, "13 2 12 13 2 20 20").does("theorem 4, pop");
        bench.does("fetch 0, fetch 1, fetch 4, theorem 0, inst");
        bench.showsTheorem("12 12 11 0 2 12 13 2 20 10 1 2 12 13 2 20 10 1 2");
        bench = Document.says(sentence).does(VARIABLES).does("fetch 0, fetch 1, fetch 3, fetch 0, app, abs, abs");
        bench.shows(0, 0, "13 2 13 2 12 10 3 0 2 2 21").refuses(3, "theorem 4").does("keep 4, pop, fetch 3, fetch 4, abs");
        bench.shows(0, 0, "13 0 2 2 13 2 13 2 12 22 21").does("theorem 4").answers(1, "count 3");
        bench = Document.says(sentence).does(VARIABLES).does("type 0, type 0, type 4, constant 0, keep 5");
        bench.does("fetch 0, fetch 0, abs, keep 4, app, fetch 4, app, theorem 1, fetch 0, theorem 0, join 1, keep 5, pop");
        bench.does("fetch 0, fetch 5, absThm, pop, fetch 1, fetch 5, absThm").answers(1, "hypotheses 0");
    }

    private static void sameTerms() {
        String sentence = "How bound variables are called does not matter: two terms are the SAME if they differ in "
                + "that alone.";
        String first = Recipes.truth(1) + ", " + Recipes.truth(1) + ", abs, " + Recipes.truth(0) + ", app";
        String second = Recipes.truth(2) + ", " + Recipes.truth(2) + ", abs, " + Recipes.truth(0) + ", app";
        String other = Recipes.truth(2) + ", " + Recipes.truth(1) + ", abs, " + Recipes.truth(0) + ", app";
        Bench bench = Document.says(sentence).does(first + ", theorem 0, keep 0, " + second + ", theorem 1, keep 1, join 0");
        bench.showsTheorem("12 13 1 20 10 0 1", "12 13 1 20 10 0 1").does("pop, fetch 0, " + other + ", theorem 1");
        bench.refuses(2, "join 0").does("pop, pop, " + first + ", theorem 1, fetch 1, join 2").answers(0, "hypotheses 0");
        bench.does(first + ", theorem 1, " + other + ", theorem 1, join 2").answers(2, "hypotheses 0");
        bench = Document.says(sentence).does(first + ", theorem 1, " + Recipes.truth(3) + ", theorem 1, join 2");
        bench.does(second + ", theorem 1, " + Recipes.truth(3) + ", theorem 1, join 2, join 2").answers(2, "hypotheses 0");
    }

    private static void equations() {
        Bench bench = Document.says("An EQUATION of t and u (of one type a): EQUAL at a, applied to t, and this "
                + "applied to u; t is its left side.");
        bench.does(Recipes.equation(Recipes.truth(1), Recipes.truth(2)) + ", theorem 1, keep 0");
        bench.shows(0, 0, "12 12 11 0 1 10 1 1 10 2 1").does(Recipes.truth(2) + ", theorem 1").refuses(2, "join 0");
        bench.does("pop, " + Recipes.truth(1) + ", theorem 1, join 0").shows(0, 0, "10 2 1");
        bench.does("type 0, constant 0, type 0, var 1, app, type 1, var 1").refuses(2, "app").does("pop, pop");
        bench.does(Recipes.truth(1) + ", theorem 1, " + Recipes.truth(2) + ", theorem 1, join 2");
        bench.shows(0, 0, "12 12 11 0 1 10 1 1 10 2 1").does("type 0, type 1, type 4, var 1, theorem 0");
        bench.shows(0, 0, "12 12 11 0 0 2 3 10 1 0 2 3 10 1 0 2 3");
        bench.does("type -1, " + Recipes.type(3) + ", type 4, var 0, " + Recipes.truth(1) + ", app, " + Recipes.truth(2));
        bench.does("app").shows(0, 0, "12 12 10 0 0 1 0 1 1 10 1 1 10 2 1");
        bench.does("theorem 1, keep 1, " + Recipes.truth(1) + ", theorem 1").refuses(2, "join 0").refuses(2, "join 1");
        bench.does(Recipes.truth(3) + ", fetch 1").refuses(2, "absThm");
    }

    private static void writtenTypes() {
        Bench bench = Document.says("THE WRITTEN FORM is a row of numbers (SYMBOLS); terms that are the same have the "
                + "same one.");
        bench.does(IDENTITY + ", type 0, var 5, type 0, var 5, abs").shows(0, 0, "13 2 20").shows(1, 0, "13 2 20");
        bench.answers(3, "length 0 0").answers(13, "symbol 0 0 0").answers(2, "symbol 0 0 1").answers(20, "symbol 0 0 2");
        bench = Document.says("Types: BOOL 1; type variable k: 2 + k; a to b: 0, then a, then b.");
        bench.does("type -1").shows(0, 0, "1").does("type 3").shows(0, 0, "5").does("type 4").shows(0, 0, "0 1 5");
        bench.does("type 0").shows(0, 0, "2").does("type 1").shows(0, 0, "3").does("type 4").shows(0, 0, "0 2 3");
        bench.does("type 4").shows(0, 0, "0 0 1 5 0 2 3").does("type 2").shows(0, 0, "4").does("type 4");
        bench.shows(0, 0, "0 0 0 1 5 0 2 3 4");
    }

    private static void writtenVariables() {
        Bench bench = Document.says("Terms: a free variable: 10, its name, its type.");
        bench.does("type -1, var 0").shows(0, 0, "10 0 1").does("type 3, type -1, type 4, var 7").shows(0, 0, "10 7 0 5 1");
        bench.does("type 0, type 1, type 2, type 4, type 4, var 2").shows(0, 0, "10 2 0 2 0 3 4");
    }

    /** The deepest bound variable that has room stands in 19 abstractions. */
    private static void writtenBoundVariables() {
        String sentence = "A bound one: 20 + j, if j abstractions stand between it and the one that binds it (0: none).";
        Bench bench = Document.says(sentence).does("type -1, var 0, keep 0, keep 2, type -1, var 1, keep 1, pop, pop");
        for (int j = 0; j <= 8; j++) {
            bench.does("fetch 0, fetch 2, abs").shows(0, 0, "13 1 ".repeat(j + 1) + (20 + j));
            bench.does("pop, fetch 1, fetch 2, abs, keep 2, pop").shows(102, 0, "13 1 ".repeat(j + 1) + "10 0 1");
        }
        deepestBoundVariable(sentence);
        bench = Document.says(sentence).does(VARIABLES);
        bench.does("fetch 0, fetch 3, fetch 1, fetch 1, abs, fetch 0, app, app, abs");
        bench.shows(0, 0, "13 2 12 10 3 0 2 2 12 13 2 20 20");
        bench.does("keep 4, pop, fetch 3, fetch 1, fetch 4, fetch 1, app, abs, abs");
        bench.shows(0, 0, "13 0 2 2 13 2 12 13 2 12 22 12 13 2 20 20 20");
    }

    private static void deepestBoundVariable(String sentence) {
        Bench bench = Document.says(sentence).does("type -1, var 0, keep 0, keep 2, type -1, var 1, keep 1, pop, pop");
        bench.does(Recipes.repeated(18, "fetch 1, fetch 2, abs, keep 2, pop")).answers(39, "length 102 0");
        bench.does("fetch 0, fetch 2, abs").shows(0, 0, "13 1 ".repeat(19) + "38").does("keep 2");
        bench.does("pop, fetch 0, fetch 2").refuses(4, "abs");
    }

    private static void writtenConstants() {
        Bench bench = Document.says("Constant 0 at a: 11, 0, a.").does("type -1, constant 0").shows(0, 0, "11 0 1");
        bench.does("type 3, constant 0").shows(0, 0, "11 0 5").does("type 1, type 0, type 4, constant 0");
        bench.shows(0, 0, "11 0 0 3 2");
        bench = Document.says("Constant c from 1 on: 11, c, its type.").does("type 1, constant 0, theorem 4, constant 1");
        bench.shows(0, 0, "11 1 0 3 0 3 1");
        bench.does("type 2, type 0, type 4, var 0, keep 0, fetch 0, abs, theorem 4, constant 2");
        bench.shows(0, 0, "11 2 0 0 4 2 0 4 2").does("constant 1").shows(0, 0, "11 1 0 3 0 3 1");
    }

    private static void writtenApplicationsAndAbstractions() {
        Bench bench = Document.says("An application: 12, f, x.").does(VARIABLES).does("fetch 3, fetch 0, app, keep 4");
        bench.shows(0, 0, "12 10 3 0 2 2 10 0 2").does("pop, fetch 3, fetch 4, app");
        bench.shows(0, 0, "12 10 3 0 2 2 12 10 3 0 2 2 10 0 2").does("type 0, constant 0, fetch 0, app, fetch 1, app");
        bench.shows(0, 0, "12 12 11 0 2 10 0 2 10 1 2");
        bench = Document.says("An abstraction: 13, the type of its variable, then the term in it.").does(VARIABLES);
        bench.does("fetch 3, fetch 0, abs").shows(0, 0, "13 0 2 2 10 0 2").does("fetch 0, fetch 3, fetch 0, app, abs");
        bench.shows(0, 0, "13 2 12 10 3 0 2 2 20").does("fetch 1, type -1, constant 0, abs").shows(0, 0, "13 2 11 0 1");
    }

    private static void hypothesesAndConclusions() {
        String sentence = "A THEOREM has at most 3 HYPOTHESES, no two the same, and a CONCLUSION; all of these are "
                + "terms of type BOOL.";
        Bench bench = Document.says(sentence).does(Recipes.assumed(0, 3)).answers(3, "hypotheses 0").does("keep 0");
        bench.does(Recipes.assumed(3, 1)).refuses(4, "join 2").does("pop, " + Recipes.assumed(0, 2) + ", keep 1, join 2");
        bench.answers(3, "hypotheses 0").shows(0, 1, "10 0 1").shows(0, 2, "10 1 1").shows(0, 3, "10 2 1");
        bench.does("fetch 1, fetch 1, join 2").answers(2, "hypotheses 0").shows(0, 1, "10 0 1").shows(0, 2, "10 1 1");
        bench.does("type 0, var 0").refuses(2, "theorem 1").refuses(2, "theorem 3").does("theorem 0");
        bench.answers(0, "hypotheses 0");
        bench = Document.says(sentence).does(Recipes.type(3) + ", var 0").refuses(2, "theorem 1").refuses(2, "theorem 3");
        bench.does("theorem 0, " + Recipes.truth(0) + ", theorem 1, " + Recipes.truth(1) + ", theorem 1, join 2, join 1");
        bench.showsTheorem("12 12 11 0 1 12 10 0 0 1 1 10 0 1 12 10 0 0 1 1 10 1 1", "10 0 1", "10 1 1");
    }

    private static void orderOfHypotheses() {
        String sentence = "Hypotheses are in the order of their written forms (where they first differ the less number "
                + "comes first).";
        String application = Recipes.type(3) + ", var 0, " + Recipes.truth(6) + ", app, theorem 1";
        Bench bench = Document.says(sentence).does(application + ", " + Recipes.truth(7) + ", theorem 1, join 2");
        bench.answers(2, "hypotheses 0").shows(0, 1, "10 7 1").shows(0, 2, "12 10 0 0 1 1 10 6 1");
        bench.does(Recipes.truth(5) + ", theorem 1, join 2").answers(3, "hypotheses 0").shows(0, 1, "10 5 1");
        bench.shows(0, 2, "10 7 1").shows(0, 3, "12 10 0 0 1 1 10 6 1");
        for (int[] names : new int[][] {{0, 1, 2}, {0, 2, 1}, {1, 0, 2}, {1, 2, 0}, {2, 0, 1}, {2, 1, 0}}) {
            bench = Document.says(sentence);
            for (int name : names) {
                bench.does(Recipes.truth(name) + ", theorem 1");
            }
            bench.does("join 2, join 2").answers(3, "hypotheses 0").shows(0, 1, "10 0 1").shows(0, 2, "10 1 1");
            bench.shows(0, 3, "10 2 1");
        }
    }

    private static void replacedVariables() {
        String sentence = "TO REPLACE a variable v in a term by a term u of the same type: u comes wherever v is free "
                + "in it; free variables of u stay free (bound ones are called otherwise where it takes that).";
        Bench bench = Document.says(sentence).does(VARIABLES).does("fetch 0, fetch 1, abs, theorem 0, keep 4, pop");
        bench.does("fetch 1, fetch 0, fetch 4, inst").showsTheorem("12 12 11 0 0 2 2 13 2 10 0 2 13 2 10 0 2");
        bench.does("fetch 0, fetch 2, fetch 4, inst").showsTheorem("12 12 11 0 0 2 2 13 2 10 1 2 13 2 10 1 2");
        bench.does("fetch 1, fetch 3, fetch 1, app, fetch 1, theorem 0, inst");
        bench.showsTheorem("12 12 11 0 2 12 10 3 0 2 2 10 1 2 12 10 3 0 2 2 10 1 2");
        bench = Document.says(sentence).does(VARIABLES).does("fetch 1, fetch 0, fetch 1, abs, abs, fetch 0, app, theorem 2");
        bench.showsTheorem("12 12 11 0 0 2 2 12 13 2 13 2 21 10 0 2 13 2 10 0 2");
        bench.does("fetch 0, fetch 0, fetch 0, abs, fetch 0, app, abs, fetch 1, app, theorem 2");
        bench.showsTheorem("12 12 11 0 2 12 13 2 12 13 2 20 20 10 1 2 12 13 2 20 10 1 2");
        bench.does("type 0, var 0, type -1, var 0, fetch 0, theorem 0").refuses(2, "inst");
    }

    private static void replacedTypeVariables() {
        String sentence = "TO REPLACE a type variable k by a type a: in the types of all variables (bound ones too) "
                + "and constants; again no variable that is free becomes bound by that (it may become the same as "
                + "another free one).";
        Bench bench = Document.says(sentence).does("type 1, type 0, type 0, var 0, type 1, var 0, abs, theorem 0, keep 0");
        bench.showsTheorem("12 12 11 0 0 2 3 13 2 10 0 3 13 2 10 0 3").does("instType 1");
        bench.showsTheorem("12 12 11 0 0 2 2 13 2 10 0 2 13 2 10 0 2").does("pop, fetch 0, instType 0");
        bench.showsTheorem("12 12 11 0 0 3 3 13 3 10 0 3 13 3 10 0 3");
        bench.does("type -1, type 0, type 1, type -1, type 4, type 4, var 2, type 0, var 0, app, type 1, var 0, app");
        bench.does("theorem 3");
        bench.showsTheorem("12 12 10 2 0 2 0 3 1 10 0 2 10 0 3").does("keep 1, instType 0");
        bench.showsTheorem("12 12 10 2 0 1 0 3 1 10 0 1 10 0 3").does("pop, type 0, fetch 1, instType 1");
        bench.showsTheorem("12 12 10 2 0 2 0 2 1 10 0 2 10 0 2");
        bench = Document.says(sentence).does("type 2, constant 0, theorem 4, keep 0, pop, type 0, type 2, type 4, fetch 0");
        bench.does("instType 3").showsTheorem("12 12 11 0 0 4 0 4 1 11 1 0 4 0 4 1 11 0 4");
        bench.does("type 0, type -1, type 4, fetch 0, instType 2");
        bench.showsTheorem("12 12 11 0 0 0 2 1 0 0 2 1 1 11 1 0 0 2 1 0 0 2 1 1 11 0 0 2 1");
    }

    private static void replacementsInTheorems() {
        String sentence = "In a theorem this is done in all hypotheses and in the conclusion; hypotheses that become "
                + "the same are one.";
        Bench bench = Document.says(sentence).does(Recipes.assumed(0, 3) + ", keep 0, pop");
        bench.does("type -1, var 0, type -1, var 5, fetch 0, inst");
        bench.showsTheorem("12 12 11 0 1 12 12 11 0 1 10 5 1 10 1 1 10 2 1", "10 1 1", "10 2 1", "10 5 1");
        bench.does("type -1, var 0, type -1, var 2, fetch 0, inst, keep 1");
        bench.showsTheorem("12 12 11 0 1 12 12 11 0 1 10 2 1 10 1 1 10 2 1", "10 1 1", "10 2 1");
        bench.does("pop, type -1, var 1, type -1, var 2, fetch 1, inst");
        bench.showsTheorem("12 12 11 0 1 12 12 11 0 1 10 2 1 10 2 1 10 2 1", "10 2 1");
        String predicate = "type %, type -1, type 4, var 0, type %, var 0, app, theorem 1";
        bench = Document.says(sentence).does(predicate.replace("%", "0") + ", " + predicate.replace("%", "1") + ", join 2");
        bench.does("keep 0, pop, type 2, fetch 0, instType 1, keep 1");
        bench.showsTheorem("12 12 11 0 1 12 10 0 0 2 1 10 0 2 12 10 0 0 4 1 10 0 4", "12 10 0 0 2 1 10 0 2",
                "12 10 0 0 4 1 10 0 4");
        bench.does("pop, type 0, fetch 1, instType 2");
        bench.showsTheorem("12 12 11 0 1 12 10 0 0 2 1 10 0 2 12 10 0 0 2 1 10 0 2", "12 10 0 0 2 1 10 0 2");
    }

    private static void limitsOfStores() {
        Bench bench = Document.says("The STACK holds at most 12 OBJECTS: types, terms and theorems.");
        bench.does("type -1, keep 0, var 0, keep 1, theorem 1, keep 2, pop");
        bench.does(Recipes.repeated(4, "fetch 0, fetch 1, fetch 2")).answers(12, "count 0");
        bench.refusesAll(4, "fetch 0, fetch 1, fetch 2, type 0").does("pop, fetch 1").refuses(4, "fetch 0");
        bench = Document.says("The DICTIONARY has the keys 0 .. 5.").does("type 0");
        bench.does("keep 0, keep 1, keep 2, keep 3, keep 4, keep 5").refusesAll(2, "keep 6, keep -1, fetch 6, fetch -1");
        bench.does("pop, fetch 0, fetch 1, fetch 2, fetch 3, fetch 4, fetch 5").answers(6, "count 0");
        bench = Document.says("The list of what was ASSUMED and that of what was EXPORTED hold at most 5 theorems each.");
        bench.does(Recipes.repeated(5, "type -1, var 0, theorem 3, export")).answers(5, "count 1").answers(5, "count 2");
        bench.does("type -1, var 1").refuses(4, "theorem 3").does("theorem 1").refuses(4, "export");
    }

    private static void leastAnswer() {
        String sentence = "Commands answer 0 if they are done, otherwise the least of these that holds, and then "
                + "nothing changes:";
        Bench bench = Document.says(sentence).does("type -1, var 5, keep 0").answers(0, "theorem 3").answers(1, "count 1");
        bench.refuses(1, "var 8").refuses(1, "theorem 9").refuses(1, "join 9").refuses(1, "instType 9");
        bench.does(Recipes.repeated(4, "fetch 0, theorem 3, pop") + ", type 0, var 0").refuses(2, "theorem 3");
        bench.does("pop, fetch 0").refuses(3, "theorem 4").refuses(4, "theorem 3");
        bench = Document.says(sentence).does("type -1, var 5, keep 0, " + Recipes.formula(11) + ", theorem 1, keep 1");
        bench.does(Recipes.idle(120 - 13)).answers(120, "count 4");
        bench.refuses(3, "absThm").refuses(1, "app").refuses(2, "keep 6").refuses(2, "fetch 3").refuses(4, "fetch 1");
    }

    private static void wrongObjects() {
        String sentence = "1 if the objects at the top of the stack are not as the command says (a VARIABLE there is a "
                + "term that is just a variable), or there are too few;";
        Bench bench = Document.says(sentence);
        bench.refusesAll(1, "type 4, var 0, constant 0, app, abs, theorem 0, join 2, absThm, inst, instType 0, keep 0, pop");
        bench.refuses(1, "export");
        bench.does("type -1, var 0, keep 0, theorem 0, keep 1, pop, " + Recipes.type(3) + ", var 1, keep 2, pop");
        bench.does("fetch 2, fetch 0, app, keep 3, fetch 0").refuses(1, "abs").does("pop, fetch 1").refuses(1, "absThm");
        bench.does("pop, fetch 0, fetch 1").refuses(1, "inst").does("pop, pop, pop, fetch 0, fetch 0, abs, keep 4, fetch 0");
        bench.refuses(1, "abs").does("pop, fetch 1").refuses(1, "absThm").does("pop, pop, type -1, constant 0, fetch 0");
        bench.refuses(1, "abs").does("pop, fetch 1").refuses(1, "absThm").does("pop, pop, fetch 0, fetch 3, abs");
        bench.does("pop, fetch 0").refusesAll(1, "app, abs, join 0, type 4, var 0, export, instType 0").does("theorem 1");
        bench.refusesAll(1, "app, abs, join 0, type 4, var 0, theorem 1, instType 0, absThm, inst");
    }

    private static void misfits() {
        String sentence = "2 if something does not fit: a number that is not as said, types or forms that are not as "
                + "said;";
        Bench bench = Document.says(sentence).does("type 0");
        bench.refusesAll(2, "type 5, type -2, var 8, var -1, constant 1, keep 6, fetch 0");
        bench.does("var 0, keep 0, fetch 0").refusesAll(2, "app, theorem 1, theorem 2, theorem 3, theorem 5, theorem -1");
        bench.does("theorem 0, type 1, var 0, theorem 0").refusesAll(2, "join 0, join 1, join 3, join -1");
        bench.does("type 0, " + Recipes.truth(0) + ", theorem 1").refusesAll(2, "instType 4, instType -1");
        bench.does("pop, pop, fetch 0, " + Recipes.truth(0) + ", theorem 1").refuses(2, "absThm");
        bench.does("pop, " + Recipes.truth(0) + ", fetch 0, theorem 0").refuses(2, "inst");
    }

    private static void sideConditions() {
        Bench bench = Document.says("3 if a side condition is not met;").does("type 0, var 0").refuses(3, "theorem 4");
        bench.does("pop, type 0, type 0, type 4, constant 0, " + IDENTITY + ", app, " + IDENTITY + ", app");
        bench.refuses(3, "theorem 4");
        bench.does("pop, type -1, var 5, " + Recipes.formula(11) + ", theorem 1").refuses(3, "absThm");
    }

    private static void noRoom() {
        String sentence = "4 if there is no room: 120 commands were done already, the stack would have more than 12 "
                + "objects, a list more than 5, there were 6 constants already, a type on the stack would have more "
                + "than 15 symbols, or a term on the stack, a hypothesis or a conclusion would have more than 40 "
                + "symbols, or a theorem more than 3 hypotheses.";
        Bench bench = Document.says(sentence).does(Recipes.idle(119) + ", type 0").answers(120, "count 4");
        bench.refusesAll(4, "type 0, var 0, constant 0, keep 0, pop");
        bench = Document.says(sentence).does(Recipes.repeated(12, "type 0")).refuses(4, "type 0").does("type 4, type 0");
        bench = Document.says(sentence).does(Recipes.repeated(5, "type -1, var 0, theorem 3, export") + ", type -1, var 0");
        bench.refuses(4, "theorem 3").does("theorem 1").refuses(4, "export");
        bench = Document.says(sentence);
        bench.does(Recipes.repeated(6, "type 0, constant 0, theorem 4, pop") + ", type 0, constant 0");
        bench.refuses(4, "theorem 4");
        bench = Document.says(sentence).does(Recipes.type(7) + ", " + Recipes.type(7) + ", type 4");
        bench.answers(15, "length 0 0");
        bench.does("pop, " + Recipes.type(7) + ", " + Recipes.type(9)).refuses(4, "type 4");
        bench = Document.says(sentence).does(Recipes.assumed(0, 3) + ", " + Recipes.truth(3) + ", theorem 1");
        bench.refuses(4, "join 2");
        noRoomForMoreSymbols(sentence);
    }

    private static void noRoomForMoreSymbols(String sentence) {
        Bench bench = Document.says(sentence).does(Recipes.type(3) + ", var 0, " + Recipes.formula(33) + ", app");
        bench.answers(39, "length 0 0").does("keep 0, theorem 1").answers(39, "length 0 1");
        bench.does("pop, fetch 0, theorem 3, pop");
        bench.does(Recipes.type(3) + ", var 0, " + Recipes.formula(35)).refuses(4, "app").does("pop, fetch 0");
        bench.refuses(4, "theorem 0");
        bench = Document.says(sentence).does(Recipes.equation(Recipes.truth(0), Recipes.truth(1)) + ", theorem 1, ");
        bench.does(Recipes.truth(0) + ", theorem 3, join 0, keep 0, pop, " + Recipes.truth(0) + ", " + Recipes.formula(33));
        bench.does("fetch 0");
        bench.refuses(4, "inst").does("pop, pop, " + Recipes.formula(31) + ", fetch 0, inst").answers(39, "length 0 1");
        bench.answers(3, "length 0 0").answers(1, "hypotheses 0");
    }

    private static void takingAndPutting() {
        String sentence = "\"Takes x, y\" says what lies at the top of the stack, the last named topmost; a command "
                + "that is done removes what it takes and puts its result on top.";
        for (Ready ready : Ready.all()) {
            Bench bench = Document.says(sentence).does(ready.prepare() + ", type 2, type 3");
            bench.does(String.join(", ", ready.pushes(ready.taken()))).does(ready.call());
            bench.answers(2 + ready.puts(), "count 0");
            bench.shows(ready.puts(), 0, "5").shows(ready.puts() + 1, 0, "4").answers(-1, "kind " + (ready.puts() + 2));
        }
        Bench bench = Document.says(sentence).does("type 0, type 1, type 4").shows(0, 0, "0 2 3");
        bench.does("var 0, type 0, var 1, app");
        bench.shows(0, 0, "12 10 0 0 2 3 10 1 2").does("type 0, var 1, type 1, var 2, abs").shows(0, 0, "13 2 10 2 3");
        bench.does("type 0, var 0, type 0, var 1, type 0, var 0, theorem 0, inst").shows(0, 0, "12 12 11 0 2 10 1 2 10 1 2");
        bench.does(Recipes.truth(4) + ", theorem 1, " + Recipes.truth(3) + ", theorem 1, join 2");
        bench.shows(0, 0, "12 12 11 0 1 10 4 1 10 3 1");
    }
}
