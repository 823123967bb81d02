import java.util.List;

/** The promises 1 to 20, sentence by sentence: each is quoted, and tested. */
final class PromisesTest {
    private static final String IDENTITY = "type 0, var 0, type 0, var 0, abs";
    private static final int LEAST = Integer.MIN_VALUE;
    private static final int MOST = Integer.MAX_VALUE;

    public static void main(String[] args) {
        newObject();
        type();
        var();
        constant();
        app();
        abs();
        theoremTakes();
        refl();
        assume();
        beta();
        axiom();
        define();
        refusedDefine();
        anotherRule();
        joinTakes();
        eqmp();
        appOfEquations();
        deduct();
        anotherJoin();
        absThm();
        refusedAbsThm();
        inst();
        instType();
        keep();
        fetch();
        pop();
        export();
        count();
        everyCommandCounts();
        kind();
        hypotheses();
        length();
        symbol();
        Bench.close("PromisesTest");
    }

    private static void newObject() {
        Bench bench = Document.says("All is empty, no constants but 0.");
        for (int list = 0; list <= 4; list++) {
            bench.answers(0, "count " + list);
        }
        for (int place : new int[] {0, 1, 11, 100, 101, 102, 103, 104, 105, 200, 201, 204, 300, 301, 304}) {
            bench.answers(-1, "kind " + place).answers(-1, "length " + place + " 0");
        }
        bench.refusesAll(2, "fetch 0, fetch 1, fetch 2, fetch 3, fetch 4, fetch 5, constant 1, constant 2, constant 6");
        bench.refuses(1, "pop").does("type 0, constant 0").shows(0, 0, "11 0 2");
    }

    private static void type() {
        Bench bench = Document.says("k = -1: BOOL; 0 .. 3: type variable k (takes nothing).");
        for (int k = -1; k <= 3; k++) {
            bench.does("type " + k).shows(0, 0, String.valueOf(k + 2)).answers(k + 2, "count 0").answers(0, "kind 0");
        }
        bench = Document.says("4: takes a type a, a type b: the function a to b.").refuses(1, "type 4").does("type 1");
        bench.refuses(1, "type 4").does("type 2, type 4").shows(0, 0, "0 3 4").answers(1, "count 0");
        bench.does("type -1, type 4").shows(0, 0, "0 0 3 4 1").does("type 0, var 0").refuses(1, "type 4").does("type 0");
        bench.refuses(1, "type 4").does("pop, theorem 0, type 0").refuses(1, "type 4");
        bench = Document.says("2 if k is none of these (tested first here, before 1).");
        for (int k : new int[] {-2, 5, 6, 100, LEAST, MOST}) {
            bench.refuses(2, "type " + k);
        }
        bench.does("type 0, type 0").refuses(2, "type 5").refuses(2, "type -2").does("var 0").refuses(2, "type 5");
        bench.refuses(1, "type 4");
    }

    private static void var() {
        Bench bench = Document.says("Takes a type: the variable with this name and type.").refuses(1, "var 0");
        for (int name = 0; name <= 7; name++) {
            bench.does("type 3, type 0, type 4, var " + name).shows(0, 0, "10 " + name + " 0 5 2");
            bench.answers(name + 1, "count 0");
        }
        bench.refuses(1, "var 0").answers(1, "kind 0").does("theorem 0").refuses(1, "var 0");
        bench = Document.says("2 if name is not 0 .. 7.").refuses(1, "var 8").does("type -1");
        for (int name : new int[] {-1, 8, 9, 10, LEAST, MOST}) {
            bench.refuses(2, "var " + name);
        }
        bench.does("var 7").shows(0, 0, "10 7 1").refuses(1, "var 8");
    }

    private static void constant() {
        Bench bench = Document.says("c = 0: takes a type a: EQUAL at a.").refuses(1, "constant 0");
        bench.does("type 0, type 1, constant 0");
        bench.shows(0, 0, "11 0 3").answers(2, "count 0").refuses(1, "constant 0").does("theorem 0");
        bench.refuses(1, "constant 0");
        bench.does("pop, constant 0").shows(0, 0, "11 0 2").answers(1, "count 0").answers(1, "kind 0");
        bench = Document.says("c from 1 on: takes nothing: constant c with its definition's type; 2 if there is no "
                + "constant c (tested first).");
        bench.refusesAll(2, "constant 1, constant -1, constant 2, constant " + LEAST + ", constant " + MOST);
        bench.does(IDENTITY + ", theorem 4, pop").refusesAll(2, "constant 2, constant 7, constant -1");
        bench.refuses(1, "constant 0");
        bench.does("constant 1").shows(0, 0, "11 1 0 2 2").answers(1, "count 0").does("constant 1").answers(2, "count 0");
        bench.does("type 1, constant 0, theorem 4, pop, constant 2").shows(0, 0, "11 2 0 3 0 3 1").refuses(2, "constant 3");
        bench.does("constant 1").shows(0, 0, "11 1 0 2 2").answers(4, "count 0");
    }

    private static void app() {
        Bench bench = Document.says("Takes a term f, a term x: f applied to x.").refuses(1, "app");
        bench.does("type 0, type 1, type 4, var 0, keep 0").refuses(1, "app").does("type 0").refuses(1, "app");
        bench.does("var 1, keep 1, app").shows(0, 0, "12 10 0 0 2 3 10 1 2").answers(1, "count 0");
        bench.does("theorem 0, fetch 1").refuses(1, "app").does("pop, fetch 0, fetch 1, theorem 0").refuses(1, "app");
        bench = Document.says("2 if the types are not so.");
        bench.does("type 0, type 1, type 4, var 0, keep 0, type 1, var 1, keep 1");
        bench.refuses(2, "app").does("pop, fetch 0").refuses(2, "app").does("pop, pop, fetch 1, fetch 1").refuses(2, "app");
        bench.does("pop, pop, fetch 1, fetch 0").refuses(2, "app").does("pop, pop, fetch 0, type 0, var 1, app");
    }

    private static void abs() {
        Bench bench = Document.says("Takes a variable v, a term t: the abstraction of v over t.").refuses(1, "abs");
        bench.does("type 0, var 0, keep 0").refuses(1, "abs").does("type 1").refuses(1, "abs");
        bench.does("var 1, keep 1, abs, keep 2");
        bench.shows(0, 0, "13 2 10 1 3").answers(1, "count 0").does("fetch 0").refuses(1, "abs");
        bench.does("pop, pop, fetch 1, fetch 2, abs");
        bench.shows(0, 0, "13 3 13 2 21").does("fetch 0, fetch 0, abs").shows(0, 0, "13 2 20");
        bench.does("theorem 0, keep 3, fetch 0");
        bench.refuses(1, "abs").does("pop, pop, fetch 0, fetch 3").refuses(1, "abs");
    }

    private static void theoremTakes() {
        for (int rule = 0; rule <= 4; rule++) {
            Bench bench = Document.says("Takes a term t.").refuses(1, "theorem " + rule).does("type -1, type -1");
            bench.refuses(1, "theorem " + rule).does("var 0, theorem 1").refuses(1, "theorem " + rule).does("pop");
            bench.does("type -1, var 0, type -1, constant 0, abs, " + (rule == 4 ? "" : "type -1, var 0, app, "));
            bench.does(rule == 1 || rule == 3 ? "type -1, var 0, app, type -1, var 0, app" : "");
            bench.does("theorem " + rule).answers(2, "count 0").answers(2, "kind 0").answers(0, "kind 1");
        }
    }

    private static void refl() {
        Bench bench = Document.says("Rule 0 REFL: the theorem without hypotheses whose conclusion is the equation of t "
                + "and t.");
        bench.does("type -1, var 3, theorem 0").showsTheorem("12 12 11 0 1 10 3 1 10 3 1");
        bench.does(IDENTITY + ", theorem 0").showsTheorem("12 12 11 0 0 2 2 13 2 20 13 2 20").answers(0, "count 1");
        bench.does("type 3, constant 0, theorem 0").showsTheorem("12 12 11 0 0 5 0 5 1 11 0 5 11 0 5").answers(3, "count 0");
    }

    private static void assume() {
        Bench bench = Document.says("1 ASSUME: the theorem with the hypothesis t and the conclusion t; 2 if t is not "
                + "of type BOOL.");
        bench.does("type -1, var 3, theorem 1").showsTheorem("10 3 1", "10 3 1").answers(0, "count 1").does("type 0, var 3");
        bench.refuses(2, "theorem 1").does("type -1, constant 0").refuses(2, "theorem 1");
        bench.does("type -1, var 0, keep 0, app");
        bench.refuses(2, "theorem 1").does("fetch 0, app, theorem 1");
        bench.showsTheorem("12 12 11 0 1 10 0 1 10 0 1", "12 12 11 0 1 10 0 1 10 0 1").answers(3, "count 0");
    }

    private static void beta() {
        Bench bench = Document.says("2 BETA: t is an abstraction of v over a term s, applied to a term u (else 2): the "
                + "theorem without hypotheses whose conclusion is the equation of t and what s becomes when v is "
                + "replaced by u.");
        bench.does("type 0, var 0, keep 0, type 0, var 1, keep 1, type 0, type 0, type 4, var 2, keep 2");
        bench.refuses(2, "theorem 2");
        bench.does("fetch 0, app, keep 3").refuses(2, "theorem 2").does("pop, pop").refuses(2, "theorem 2");
        bench.does("fetch 3, abs, keep 4").refuses(2, "theorem 2").does("fetch 1, app, theorem 2");
        bench.showsTheorem("12 12 11 0 2 12 13 2 12 10 2 0 2 2 20 10 1 2 12 10 2 0 2 2 10 1 2");
        bench.does("fetch 1, fetch 4, abs, fetch 0, app, keep 5, theorem 2");
        bench.shows(0, 0, "12 12 11 0 0 2 2 12 13 2 13 2 12 10 2 0 2 2 20 10 0 2 13 2 12 10 2 0 2 2 20");
        bench.does("fetch 5, fetch 1, app").refuses(2, "theorem 2").does("pop, fetch 2, fetch 5, fetch 1, app, app");
        bench.refuses(2, "theorem 2");
        bench.does("pop, fetch 0, fetch 1, fetch 0, abs, abs, fetch 1, app, theorem 2");
        bench.showsTheorem("12 12 11 0 0 2 2 12 13 2 13 2 21 10 1 2 13 2 10 1 2").answers(0, "count 1");
    }

    private static void axiom() {
        Bench bench = Document.says("3 AXIOM: the theorem without hypotheses with the conclusion t, which is put at "
                + "the end of the list of what was assumed too; 2 if t is not of type BOOL.");
        bench.does("type 0, var 0").refuses(2, "theorem 3").does("type -1, constant 0").refuses(2, "theorem 3");
        bench.does("pop, pop");
        for (int k = 0; k < 5; k++) {
            bench.does("type -1, var " + (7 - k) + ", theorem 3").showsTheorem("10 " + (7 - k) + " 1");
            bench.answers(k + 1, "count 1");
            bench.shows(200 + k, 0, "10 " + (7 - k) + " 1").answers(0, "hypotheses " + (200 + k)).shows(200, 0, "10 7 1");
        }
        bench.answers(5, "count 0").does("pop, pop, pop, pop, pop").answers(5, "count 1").shows(202, 0, "10 5 1");
        bench.answers(0, "count 2").does("type 0, var 0").refuses(2, "theorem 3");
    }

    private static void define() {
        Bench bench = Document.says("4 DEFINE: the theorem without hypotheses whose conclusion is the equation of a "
                + "new constant (of the least number not used, and the type of t) and t; 3 if some variable is free in "
                + "t, or a type variable that stands in the written form of t does not stand in the type of t.");
        bench.does(IDENTITY + ", theorem 4").showsTheorem("12 12 11 0 0 2 2 11 1 0 2 2 13 2 20").answers(1, "count 3");
        bench.does("type -1, constant 0").does("theorem 4").showsTheorem("12 12 11 0 0 1 0 1 1 11 2 0 1 0 1 1 11 0 1");
        bench.does("type 0, var 0").refuses(3, "theorem 4").answers(2, "count 3").does("type 0, type 0, type 4, constant 0");
        bench.does("constant 1, app, constant 1, app").refuses(3, "theorem 4").answers(2, "count 3");
        bench.does("constant 2, theorem 4").showsTheorem("12 12 11 0 0 1 0 1 1 11 3 0 1 0 1 1 11 2 0 1 0 1 1");
        bench.answers(3, "count 3");
        bench.answers(0, "count 1").answers(5, "count 0");
    }

    /** The type variable 1 stands in the written form alone; then in the type as well. */
    private static void refusedDefine() {
        Bench bench = new Bench("promise 7, DEFINE: a type variable of a bound variable, a free one deep inside");
        bench.does("type 0, var 0, keep 0, type 1, var 1, keep 1, fetch 0, abs, type 1, var 2, app, keep 2");
        bench.refuses(3, "theorem 4");
        bench.does("pop, pop, fetch 0, fetch 2, abs").refuses(3, "theorem 4");
        bench.does("keep 3, pop, type 1, var 2, fetch 3, abs");
        bench.shows(0, 0, "13 3 13 2 12 13 3 21 21").does("theorem 4").answers(1, "count 3");
        bench.does("pop, fetch 0, fetch 1, fetch 1, abs, abs, theorem 4").answers(2, "count 3");
    }

    private static void anotherRule() {
        String sentence = "Another rule: 2 (when there is a term at the top; otherwise 1).";
        for (int rule : new int[] {-1, 5, 6, LEAST, MOST}) {
            Bench bench = Document.says(sentence).refuses(1, "theorem " + rule).does("type -1");
            bench.refuses(1, "theorem " + rule);
            bench.does("var 0").refuses(2, "theorem " + rule).does("theorem 1").refuses(1, "theorem " + rule);
        }
    }

    private static void joinTakes() {
        for (int rule = 0; rule <= 2; rule++) {
            Bench bench = Document.says("Takes a theorem G, a theorem D.").refuses(1, "join " + rule);
            bench.does("type -1, var 0, keep 0, theorem 0, keep 1").refuses(1, "join " + rule).does("fetch 0");
            bench.refuses(1, "join " + rule);
            bench.does("pop, pop, fetch 0, fetch 1").refuses(1, "join " + rule).does("pop, type -1");
            bench.refuses(1, "join " + rule);
            bench.does("pop, " + Recipes.type(3) + ", var 0, theorem 0, keep 2, pop");
            bench.does(new String[] {"fetch 1, fetch 0, theorem 1", "fetch 2, fetch 1", "fetch 1, fetch 2"}[rule]);
            bench.does("join " + rule).answers(2, "count 0").answers(2, "kind 0").answers(1, "kind 1");
        }
    }

    private static void eqmp() {
        Bench bench = Document.says("Rule 0 EQMP: the conclusion of G is an equation of p and q, and p is the same as "
                + "the conclusion of D (else 2): the theorem with the hypotheses of both and the conclusion q.");
        bench.does(Recipes.equation(Recipes.truth(1), Recipes.truth(2)) + ", theorem 1, keep 0");
        bench.does(Recipes.truth(1) + ", theorem 1, keep 1, join 0");
        bench.showsTheorem("10 2 1", "10 1 1", "12 12 11 0 1 10 1 1 10 2 1").does("pop");
        bench.does("fetch 1, fetch 1").refuses(2, "join 0").does("pop, pop, fetch 0, fetch 0").refuses(2, "join 0");
        bench.does("pop");
        bench.does(Recipes.truth(2) + ", theorem 1").refuses(2, "join 0");
        bench.does("pop, " + Recipes.truth(1) + ", theorem 3, join 0");
        bench.showsTheorem("10 2 1", "12 12 11 0 1 10 1 1 10 2 1").does(Recipes.truth(1) + ", theorem 0, fetch 1, join 0");
        bench.showsTheorem("10 1 1", "10 1 1").does("fetch 1, fetch 0").refuses(2, "join 0");
    }

    private static void appOfEquations() {
        Bench bench = Document.says("1 APP: the conclusions are equations, of f and g and of x and y, and f can be "
                + "applied to x (else 2): hypotheses of both, the conclusion is the equation of f applied to x and g "
                + "applied to y.");
        String type = Recipes.type(3);
        bench.does(type + ", constant 0, " + type + ", var 3, app, " + type + ", var 2, app, theorem 1, keep 0");
        bench.does(Recipes.equation(Recipes.truth(1), Recipes.truth(0)) + ", theorem 1, keep 1, join 1");
        bench.showsTheorem("12 12 11 0 1 12 10 3 0 1 1 10 1 1 12 10 2 0 1 1 10 0 1",
                "12 12 11 0 0 1 1 10 3 0 1 1 10 2 0 1 1", "12 12 11 0 1 10 1 1 10 0 1");
        bench.does("fetch 1, fetch 0").refuses(2, "join 1").does("pop, fetch 1").refuses(2, "join 1");
        bench.does("fetch 0, fetch 0").refuses(2, "join 1").does("pop, type 0, var 0, theorem 0").refuses(2, "join 1");
        bench.does("pop, " + Recipes.truth(1) + ", theorem 1, keep 2").refuses(2, "join 1");
        bench.does("pop, pop, fetch 2, fetch 1");
        bench.refuses(2, "join 1");
    }

    private static void deduct() {
        Bench bench = Document.says("2 DEDUCT: with p the conclusion of G and q that of D: the hypotheses of G but q "
                + "and those of D but p, the conclusion is the equation of p and q.");
        bench.does(Recipes.equation(Recipes.truth(0), Recipes.truth(1)) + ", theorem 1, type -1, var 0, theorem 1");
        bench.does("join 0, keep 0").showsTheorem("10 1 1", "10 0 1", "12 12 11 0 1 10 0 1 10 1 1");
        bench.does(Recipes.truth(0) + ", theorem 3, keep 1, join 2");
        bench.showsTheorem("12 12 11 0 1 10 1 1 10 0 1", "12 12 11 0 1 10 0 1 10 1 1").does("fetch 1, fetch 0, join 2");
        bench.showsTheorem("12 12 11 0 1 10 0 1 10 1 1", "12 12 11 0 1 10 0 1 10 1 1").does("fetch 0, fetch 0, join 2");
        bench.showsTheorem("12 12 11 0 1 10 1 1 10 1 1", "10 0 1", "12 12 11 0 1 10 0 1 10 1 1");
        bench.does(Recipes.truth(1) + ", theorem 1, fetch 0, join 2");
        bench.showsTheorem("12 12 11 0 1 10 1 1 10 1 1", "10 0 1", "12 12 11 0 1 10 0 1 10 1 1");
        bench.does(Recipes.truth(6) + ", theorem 1, keep 2, " + Recipes.truth(5) + ", theorem 1, join 2");
        bench.showsTheorem("12 12 11 0 1 10 6 1 10 5 1", "10 5 1", "10 6 1").does("fetch 2, fetch 2, join 2");
        bench.showsTheorem("12 12 11 0 1 10 6 1 10 6 1");
    }

    private static void anotherJoin() {
        for (int rule : new int[] {-1, 3, 4, LEAST, MOST}) {
            Bench bench = Document.says("Another rule: 2 (when there are two theorems; otherwise 1).");
            bench.refuses(1, "join " + rule);
            bench.does("type -1, var 0, theorem 1, keep 0").refuses(1, "join " + rule).does("type 0");
            bench.refuses(1, "join " + rule);
            bench.does("fetch 0").refuses(1, "join " + rule).does("fetch 0").refuses(2, "join " + rule).does("join 2");
        }
    }

    private static void absThm() {
        Bench bench = Document.says("Takes a variable v, a theorem whose conclusion is an equation of t and u (else "
                + "2): the theorem with the same hypotheses whose conclusion is the equation of the abstractions of v "
                + "over t and over u.").refuses(1, "absThm");
        bench.does("type 0, var 0, keep 0").refuses(1, "absThm").does("theorem 0, keep 1").refuses(1, "absThm");
        bench.does("pop, type 0");
        bench.does("fetch 1").refuses(1, "absThm").does("pop, pop, fetch 0, fetch 0").refuses(1, "absThm").does("pop");
        bench.does("fetch 1, absThm").showsTheorem("12 12 11 0 0 2 2 13 2 20 13 2 20").answers(1, "count 0").does("fetch 0");
        bench.does(Recipes.truth(1) + ", theorem 1").refuses(2, "absThm").does("pop, " + Recipes.type(3) + ", var 1");
        bench.does(Recipes.truth(1) + ", app, theorem 3").refuses(2, "absThm");
        bench.does("pop, " + Recipes.assumed(1, 2) + ", absThm");
        bench.showsTheorem("12 12 11 0 0 2 1 13 2 10 1 1 13 2 10 2 1", "10 1 1", "10 2 1");
        bench.does("fetch 0, fetch 0, abs, fetch 0, theorem 0").refuses(1, "absThm");
    }

    private static void refusedAbsThm() {
        Bench bench = Document.says("3 if v is free in a hypothesis.").does(Recipes.assumed(1, 2) + ", keep 0, pop");
        bench.does(Recipes.truth(1) + ", fetch 0").refuses(3, "absThm").does("pop, pop, " + Recipes.truth(2) + ", fetch 0");
        bench.refuses(3, "absThm");
        bench.does("pop, pop, type 0, var 1, fetch 0, absThm, " + Recipes.truth(3) + ", fetch 0, absThm");
        bench = new Bench("promise 9: v is bound in the hypothesis, or free in the conclusion alone");
        bench.does(Recipes.truth(0) + ", keep 0, fetch 0, abs, " + Recipes.truth(1) + ", app, theorem 1, keep 1, pop");
        bench.does("fetch 0, fetch 1, fetch 1, join 2, pop, fetch 0, theorem 3, fetch 1, join 2, keep 2");
        bench.showsTheorem("12 12 11 0 1 10 0 1 12 13 1 20 10 1 1", "12 13 1 20 10 1 1");
        bench.does("pop, fetch 0, fetch 2, absThm");
        bench.showsTheorem("12 12 11 0 0 1 1 13 1 20 13 1 12 13 1 20 10 1 1", "12 13 1 20 10 1 1");
    }

    private static void inst() {
        Bench bench = Document.says("Takes a variable v, a term u, a theorem: the theorem in which v is replaced by u.");
        bench.refuses(1, "inst");
        bench.does(Recipes.truth(0) + ", keep 0, theorem 1, keep 1").refuses(1, "inst").does("pop, fetch 0, fetch 1");
        bench.refuses(1, "inst");
        bench.does("pop, type -1, fetch 1").refuses(1, "inst");
        bench.does("pop, pop, " + Recipes.truth(1) + ", keep 2, fetch 1, inst");
        bench.showsTheorem("10 1 1", "10 1 1").answers(1, "count 0").does("fetch 2, fetch 0, fetch 1, inst");
        bench.showsTheorem("10 0 1", "10 0 1").does("fetch 0, fetch 0, abs, fetch 0, fetch 1").refuses(1, "inst");
        bench.does("pop, pop, pop, fetch 0, fetch 2, fetch 2").refuses(1, "inst");
        bench = Document.says("2 if the types of v and u differ.").does("type 0, var 0, keep 0, theorem 0, keep 1, pop");
        bench.does("fetch 0, type 1, var 0, fetch 1").refuses(2, "inst").does("pop, pop, type 0, constant 0, fetch 1");
        bench.refuses(2, "inst");
        bench.does("pop, pop, type -1, var 0, fetch 1").refuses(2, "inst").does("pop, pop, type 0, var 5, fetch 1, inst");
        bench.showsTheorem("12 12 11 0 2 10 5 2 10 5 2");
    }

    private static void instType() {
        Bench bench = Document.says("Takes a type a, a theorem: the theorem in which the type variable k is replaced "
                + "by a.");
        bench.refuses(1, "instType 0").does("type -1").refuses(1, "instType 0");
        bench.does("type 1, var 2, theorem 0, keep 0, instType 1");
        bench.showsTheorem("12 12 11 0 1 10 2 1 10 2 1").answers(1, "count 0");
        bench.does("type 0, type 1, type 4, fetch 0, instType 1");
        bench.showsTheorem("12 12 11 0 0 2 3 10 2 0 2 3 10 2 0 2 3").does("type -1, fetch 0, instType 0");
        bench.showsTheorem("12 12 11 0 3 10 2 3 10 2 3").does("fetch 0, fetch 0").refuses(1, "instType 1").does("type 0");
        bench.refuses(1, "instType 1").does("var 0, fetch 0").refuses(1, "instType 1");
        bench = Document.says("2 if k is not 0 .. 3.").refuses(1, "instType 4").does("type 0, type -1, var 2, theorem 0");
        for (int k : new int[] {-1, 4, 5, LEAST, MOST}) {
            bench.refuses(2, "instType " + k);
        }
        bench.does("instType 3").answers(1, "count 0");
    }

    private static void keep() {
        Bench bench = Document.says("Takes an object, which becomes the dictionary's for that key and is put back on "
                + "top (it stays on the stack).");
        bench.refuses(1, "keep 0").does("type 0, keep 0").shows(0, 0, "2").shows(100, 0, "2").answers(1, "count 0");
        bench.does("var 4, keep 5").shows(0, 0, "10 4 2").shows(105, 0, "10 4 2").shows(100, 0, "2").answers(1, "count 0");
        bench.does("theorem 0, keep 0, keep 3").answers(2, "kind 100").answers(2, "kind 103").answers(1, "count 0");
        bench.showsTheorem("12 12 11 0 2 10 4 2 10 4 2").shows(103, 0, "12 12 11 0 2 10 4 2 10 4 2").answers(-1, "kind 101");
        bench = Document.says("2 if key is not 0 .. 5.").refuses(1, "keep 6").refuses(1, "keep -1").does("type 0");
        bench.refusesAll(2, "keep -1, keep 6, keep 7, keep 100, keep " + LEAST + ", keep " + MOST);
    }

    private static void fetch() {
        Bench bench = Document.says("Puts the dictionary's object for that key on top (it stays in the dictionary).");
        bench.does("type 1, keep 0, var 1, keep 1, theorem 0, keep 2, pop, fetch 1").shows(0, 0, "10 1 3");
        bench.answers(1, "count 0");
        bench.does("fetch 0").shows(0, 0, "3").does("fetch 2").showsTheorem("12 12 11 0 3 10 1 3 10 1 3");
        bench.answers(3, "count 0");
        bench.does("fetch 1").shows(0, 0, "10 1 3").shows(101, 0, "10 1 3").answers(0, "kind 100").answers(2, "kind 102");
        bench = Document.says("2 if key is not 0 .. 5 or nothing was kept for it.");
        bench.refusesAll(2, "fetch 0, fetch 5, fetch -1, fetch 6");
        bench.does("type 0, keep 3").refusesAll(2, "fetch 2, fetch 4, fetch " + LEAST + ", fetch " + MOST).does("fetch 3");
    }

    private static void pop() {
        Bench bench = Document.says("Takes an object, and that is all.").refuses(1, "pop");
        bench.does("type 0, type 0, type 1, keep 0, var 0, type -1, var 0, theorem 3, pop").shows(0, 0, "10 0 3");
        bench.answers(3, "count 0");
        bench.answers(1, "count 1").answers(0, "count 2").does("pop").shows(0, 0, "2").does("pop, pop");
        bench.answers(0, "count 0");
        bench.answers(0, "kind 100").answers(2, "kind 200").answers(12, "count 4").refuses(1, "pop");
    }

    private static void export() {
        Bench bench = Document.says("Takes a theorem, which is put at the end of the list of what was exported.");
        bench.refuses(1, "export");
        bench.does("type -1").refuses(1, "export").does("var 0").refuses(1, "export").does("pop, type 2");
        for (int k = 0; k < 5; k++) {
            bench.does(Recipes.truth(7 - k) + ", theorem 1, export").answers(1, "count 0").shows(0, 0, "4");
            bench.answers(k + 1, "count 2");
            bench.shows(300 + k, 0, "10 " + (7 - k) + " 1").shows(300 + k, 1, "10 " + (7 - k) + " 1");
            bench.shows(300, 0, "10 7 1");
        }
        bench.answers(0, "count 1").answers(1, "hypotheses 304").refuses(1, "export");
    }

    private static void count() {
        Bench bench = Document.says("How many: list 0 objects on the stack, 1 theorems assumed, 2 theorems exported, 3 "
                + "constants defined, 4 commands done (all from type() to export() that answered 0); -1 for another "
                + "list.");
        int commands = 0;
        for (String call : Recipes.calls("type -1, var 0, keep 0, theorem 3, keep 1, fetch 1, join 2, export, type 0, "
                + "constant 0,theorem 4, constant 1, theorem 0, pop, fetch 0, fetch 1")) {
            commands++;
            bench.answers(0, call).refuses(2, "type 5").answers(commands, "count 4");
        }
        bench.answers(3, "count 0").answers(1, "count 1").answers(1, "count 2").answers(1, "count 3");
        bench.answers(2, "type 9").answers(2, "keep 9").answers(1, "var 0").answers(-1, "kind 99");
        bench.answers(commands, "count 4");
        for (int list : new int[] {-1, 5, 6, LEAST, MOST}) {
            bench.answers(-1, "count " + list);
        }
    }

    /** Every command counts as one when it is done, and as none when it is refused. */
    private static void everyCommandCounts() {
        for (Ready ready : Ready.all()) {
            List<String> pushes = ready.pushes(ready.taken());
            int needed = Recipes.calls(ready.prepare()).size() + pushes.size();
            Bench bench = ready.machine("promise 16: commands done with", 0, pushes).answers(needed, "count 4");
            bench.does(ready.call()).answers(needed + 1, "count 4");
        }
    }

    private static void kind() {
        Bench bench = Document.says("What there is at a PLACE: 0 a type, 1 a term, 2 a theorem; -1 if there is nothing.");
        bench.answers(-1, "kind 0").does("type 0, keep 1").answers(0, "kind 0").answers(0, "kind 101").does("var 0, keep 2");
        bench.answers(1, "kind 0").answers(1, "kind 102").does("theorem 0, keep 3").answers(2, "kind 0");
        bench.answers(2, "kind 103");
        bench.answers(-1, "kind 1").answers(-1, "kind 100").answers(-1, "kind 104").answers(-1, "kind 200");
        bench.answers(-1, "kind 300");
        bench = Document.says("Places: p from 0 on: the object of the stack that has p others above it; 100 + k: the "
                + "dictionary's for key k; 200 + k: the k-th theorem assumed (from 0); 300 + k: the k-th exported.");
        for (int i = 0; i < 6; i++) {
            bench.does("type -1, var " + i + ", keep " + i);
        }
        for (int p = 0; p < 6; p++) {
            bench.shows(p, 0, "10 " + (5 - p) + " 1").shows(100 + p, 0, "10 " + p + " 1");
        }
        for (int k = 0; k < 5; k++) {
            bench.does("fetch " + k + ", theorem 3, pop, fetch " + (5 - k) + ", theorem 1, export");
            bench.shows(200 + k, 0, "10 " + k + " 1").shows(300 + k, 0, "10 " + (5 - k) + " 1");
        }
        for (int place : new int[] {-1, 6, 12, 99, 106, 199, 205, 299, 305, 400, LEAST, MOST}) {
            bench.answers(-1, "kind " + place);
        }
    }

    private static void hypotheses() {
        Bench bench = Document.says("How many hypotheses the theorem at a place has; -1 if there is no theorem.");
        bench.answers(-1, "hypotheses 0");
        bench.does("type -1, keep 0").answers(-1, "hypotheses 0").answers(-1, "hypotheses 100").does("var 0");
        bench.answers(-1, "hypotheses 0");
        bench.does("theorem 3").answers(0, "hypotheses 0").answers(0, "hypotheses 200").answers(-1, "hypotheses 201");
        for (int number = 1; number <= 3; number++) {
            bench.does(Recipes.assumed(0, number) + ", keep 1").answers(number, "hypotheses 0");
            bench.answers(number, "hypotheses 101");
            bench.does("export").answers(number, "hypotheses " + (299 + number)).answers(-1, "hypotheses " + (300 + number));
        }
        bench.answers(-1, "hypotheses -1").answers(-1, "hypotheses " + LEAST).answers(-1, "hypotheses " + MOST);
    }

    private static void length() {
        Bench bench = Document.says("How many symbols part i at a place has: part 0 is the type, the term, or the "
                + "theorem's conclusion; part i from 1 on is the theorem's i-th hypothesis.");
        bench.does("type 0, type 1, type 4").answers(3, "length 0 0").does("var 0").answers(5, "length 0 0").does("keep 1");
        String hypothesis = Recipes.equation(Recipes.truth(0), Recipes.truth(1)) + ", theorem 1";
        bench.does(hypothesis + ", " + Recipes.truth(0) + ", theorem 1, join 0, keep 2, export");
        for (int place : new int[] {102, 300}) {
            bench.answers(3, "length " + place + " 0").answers(3, "length " + place + " 1");
            bench.answers(11, "length " + place + " 2");
        }
        bench.answers(5, "length 101 0").answers(10, "symbol 300 0 0").answers(1, "symbol 300 0 1");
        bench.answers(0, "symbol 300 1 1");
        String second = "-1 if there is no such part.";
        bench = Document.says(second).does("type -1, keep 0, var 0, keep 1, theorem 1");
        for (int i : new int[] {-1, 2, 3, LEAST, MOST}) {
            bench.answers(-1, "length 0 " + i).answers(-1, "length 100 " + i).answers(-1, "length 101 " + i);
            bench.answers(-1, "length 1 " + i);
        }
        bench.answers(3, "length 0 1").answers(-1, "length 100 1").answers(-1, "length 101 1").answers(-1, "length 1 0");
        bench.answers(-1, "length -1 0").answers(-1, "length 106 0").answers(-1, "length 200 0").answers(-1, "length 300 0");
    }

    private static void symbol() {
        Bench bench = Document.says("Symbol j (from 0) of part i at a place; -1 if there is none.");
        bench.does("type 2, keep 0, type -1, type 4");
        bench.answers(0, "symbol 0 0 0").answers(4, "symbol 0 0 1").answers(1, "symbol 0 0 2").answers(-1, "symbol 0 0 3");
        bench.answers(4, "symbol 100 0 0").answers(-1, "symbol 100 0 1").answers(-1, "symbol 100 1 0").does("var 6");
        int[] symbols = {10, 6, 0, 4, 1};
        for (int j = 0; j < symbols.length; j++) {
            bench.answers(symbols[j], "symbol 0 0 " + j);
        }
        bench.does("type 2, var 3, app, theorem 1").answers(12, "symbol 0 0 0").answers(12, "symbol 0 1 0");
        bench.answers(3, "symbol 0 1 7");
        bench.answers(4, "symbol 0 0 8").answers(-1, "symbol 0 0 9").answers(-1, "symbol 0 1 9").answers(-1, "symbol 0 2 0");
        for (int wrong : new int[] {-1, LEAST, MOST}) {
            bench.answers(-1, "symbol 0 0 " + wrong).answers(-1, "symbol 0 " + wrong + " 0");
            bench.answers(-1, "symbol " + wrong + " 0 0");
        }
    }
}
