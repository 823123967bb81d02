/** Promise 7: the theorems that come of one term. */
final class TheoremTest {
    public static void main(String[] args) {
        wrongObjects();
        reflexivity();
        assumptions();
        reductions();
        reductionsUnderAbstractions();
        axioms();
        definitions();
        sideConditionsOfDefinitions();
        numbersAreNoTypeVariables();
        Bench.close("TheoremTest");
    }

    private static void wrongObjects() {
        Bench bench = new Bench("promise 7, wrong objects");
        for (int rule = -1; rule <= 5; rule++) {
            bench.refuses(1, "theorem " + rule);
        }
        bench.does("type -1");
        for (int rule = -1; rule <= 5; rule++) {
            bench.refuses(1, "theorem " + rule);
        }
        bench.does("var 0, keep 0").refuses(2, "theorem 5").refuses(2, "theorem -1");
        bench.refuses(2, "theorem " + Integer.MAX_VALUE).refuses(2, "theorem " + Integer.MIN_VALUE);
        bench.does("theorem 1");
        for (int rule = -1; rule <= 5; rule++) {
            bench.refuses(1, "theorem " + rule);
        }
    }

    private static void reflexivity() {
        Bench bench = new Bench("promise 7, REFL");
        bench.does("type 0, var 3, theorem 0").showsTheorem("12 12 11 0 2 10 3 2 10 3 2").answers(1, "count 0");
        bench.does("type 0, constant 0, theorem 0").showsTheorem("12 12 11 0 0 2 0 2 1 11 0 2 11 0 2");
        bench.does("type 1, constant 0, type 1, var 0, app, theorem 0");
        bench.showsTheorem("12 12 11 0 0 3 1 12 11 0 3 10 0 3 12 11 0 3 10 0 3");
        bench.does("type 0, var 0, type 1, var 0, abs, theorem 0");
        bench.showsTheorem("12 12 11 0 0 2 3 13 2 10 0 3 13 2 10 0 3");
        bench.answers(0, "count 1").answers(0, "count 2").answers(0, "count 3").answers(4, "count 0");
    }

    private static void assumptions() {
        Bench bench = new Bench("promise 7, ASSUME");
        bench.does("type -1, var 5, theorem 1").showsTheorem("10 5 1", "10 5 1").answers(0, "count 1");
        bench.does("type 0, var 0").refuses(2, "theorem 1");
        bench.does("type -1, type -1, type 4, var 0").refuses(2, "theorem 1");
        bench.does("type -1, constant 0").refuses(2, "theorem 1");
        bench.does("type -1, var 0, app").refuses(2, "theorem 1");
        bench.does("type -1, var 1, app, theorem 1");
        bench.showsTheorem("12 12 11 0 1 10 0 1 10 1 1", "12 12 11 0 1 10 0 1 10 1 1");
    }

    private static void reductions() {
        Bench bench = new Bench("promise 7, BETA");
        bench.does("type 0, var 0, keep 0").refuses(2, "theorem 2");
        bench.does("fetch 0, abs").refuses(2, "theorem 2");
        bench.does("type 0, var 1, app, theorem 2");
        bench.showsTheorem("12 12 11 0 2 12 13 2 20 10 1 2 10 1 2").answers(1, "count 0");
        bench.does("type 0, type -1, type 4, var 0, fetch 0, app").refuses(2, "theorem 2");
        bench.does("keep 1, pop, fetch 0, type 1, var 2, abs, fetch 0, app, theorem 2");
        bench.showsTheorem("12 12 11 0 3 12 13 2 10 2 3 10 0 2 10 2 3");
        bench.does("fetch 0, fetch 1, abs, fetch 0, app, theorem 2");
        bench.showsTheorem("12 12 11 0 1 12 13 2 12 10 0 0 2 1 20 10 0 2 12 10 0 0 2 1 10 0 2");
    }

    private static void reductionsUnderAbstractions() {
        Bench bench = new Bench("promise 7, BETA under abstractions");
        bench.does("type 0, var 0, keep 0, type 1, var 1, keep 1");
        bench.does("fetch 0, fetch 1, fetch 0, abs, abs, fetch 0, app, theorem 2");
        bench.showsTheorem("12 12 11 0 0 3 2 12 13 2 13 3 21 10 0 2 13 3 10 0 2");
        bench.does("fetch 0, fetch 0, fetch 0, abs, abs, type 0, var 2, app, theorem 2");
        bench.showsTheorem("12 12 11 0 0 2 2 12 13 2 13 2 20 10 2 2 13 2 20");
        bench.does("type 0, type 0, type 4, constant 0, fetch 0, fetch 0, abs, app").refuses(2, "theorem 2");
        Bench other = new Bench("promise 7, BETA with a bound variable behind an abstraction");
        other.does("type -1, var 0, keep 0, type -1, constant 0, type -1, type -1, type 4, var 1, fetch 0, app");
        other.does("app, fetch 0, app, keep 1, pop, type -1, var 3, keep 3, pop, pop");
        other.does("fetch 0, type -1, constant 0, fetch 3, fetch 0, abs, fetch 0, app, app, fetch 0, app, abs");
        other.shows(0, 0, "13 1 12 12 11 0 1 12 13 1 21 20 20");
        other.does("fetch 3, app, theorem 2").showsTheorem("12 12 11 0 1 12 13 1 12 12 11 0 1 12 13 1 21 20 20 10 3 1"
                + " 12 12 11 0 1 12 13 1 10 3 1 10 3 1 10 3 1");
    }

    private static void axioms() {
        Bench bench = new Bench("promise 7, AXIOM");
        bench.does("type -1, var 2, theorem 3").showsTheorem("10 2 1").answers(1, "count 1").answers(1, "count 0");
        bench.shows(200, 0, "10 2 1").answers(2, "kind 200").answers(0, "hypotheses 200");
        bench.does("type 0, var 0").refuses(2, "theorem 3");
        bench.does("pop, type -1, var 1, theorem 3").answers(2, "count 1");
        bench.shows(200, 0, "10 2 1").shows(201, 0, "10 1 1").answers(-1, "kind 202").answers(0, "count 2");
    }

    private static void definitions() {
        Bench bench = new Bench("promise 7, DEFINE");
        bench.does("type 0, var 0, type 1, var 0, type 1, constant 0, abs, abs, theorem 4");
        bench.showsTheorem("12 12 11 0 0 2 0 3 0 3 0 3 1 11 1 0 2 0 3 0 3 0 3 1 13 2 13 3 11 0 3");
        bench.answers(1, "count 3").answers(0, "count 1").answers(1, "count 0");
        bench.does("constant 1, theorem 0").refuses(1, "constant 0");
        bench.does("type -1, constant 0, theorem 4");
        bench.showsTheorem("12 12 11 0 0 1 0 1 1 11 2 0 1 0 1 1 11 0 1").answers(2, "count 3");
        bench.does("constant 2, theorem 4").showsTheorem("12 12 11 0 0 1 0 1 1 11 3 0 1 0 1 1 11 2 0 1 0 1 1");
    }

    private static void sideConditionsOfDefinitions() {
        Bench bench = new Bench("promise 7, DEFINE refused");
        bench.does("type -1, var 0, keep 0").refuses(3, "theorem 4");
        bench.does("type 0, var 0, fetch 0, abs").refuses(3, "theorem 4");
        bench.does("type 0, type 0, type 4, constant 0, type 0, var 0, keep 1, fetch 1, abs, keep 2, app, fetch 2, app");
        bench.refuses(3, "theorem 4").answers(0, "count 3");
        bench.does("pop, type 0, var 0, fetch 2, fetch 1, app, theorem 0, pop, fetch 2, fetch 1, app, abs, theorem 4");
        bench.showsTheorem("12 12 11 0 0 2 2 11 1 0 2 2 13 2 12 13 2 20 20");
        bench.does("type 0, var 0, keep 3, type 1, var 0, fetch 3, abs, type 1, var 0, app, abs").refuses(3, "theorem 4");
    }

    private static void numbersAreNoTypeVariables() {
        Bench bench = new Bench("promise 7, DEFINE from a constant with a number like a type variable's symbol");
        bench.does("type -1, constant 0, theorem 4, constant 1, theorem 4, constant 2, theorem 4, constant 3, theorem 4");
        bench.showsTheorem("12 12 11 0 0 1 0 1 1 11 4 0 1 0 1 1 11 3 0 1 0 1 1");
    }
}
