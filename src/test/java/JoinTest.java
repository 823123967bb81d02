/** Promise 8: the theorems that come of two theorems. */
final class JoinTest {
    public static void main(String[] args) {
        wrongObjects();
        followingEquations();
        sameUpToBoundNames();
        misfitsOfFollowing();
        applyingEquations();
        misfitsOfApplying();
        deducing();
        orderOfHypotheses();
        orderByTheFirstDifference();
        Bench.close("JoinTest");
    }

    private static void wrongObjects() {
        Bench bench = new Bench("promise 8, wrong objects");
        for (int rule = -1; rule <= 3; rule++) {
            bench.refuses(1, "join " + rule);
        }
        bench.does("type -1, var 0, theorem 1, keep 0");
        for (int rule = -1; rule <= 3; rule++) {
            bench.refuses(1, "join " + rule);
        }
        bench.does("type -1, var 0").refuses(1, "join 2").refuses(1, "join 3");
        bench.does("fetch 0").refuses(1, "join 2").refuses(1, "join -1");
        bench.does("fetch 0").refuses(2, "join 3").refuses(2, "join -1");
        bench.refuses(2, "join " + Integer.MIN_VALUE).refuses(2, "join " + Integer.MAX_VALUE);
    }

    /** The keys 0 and 1 have the variables p and q, 2 and 3 the theorems that assume them. */
    private static Bench withFormulas(String title) {
        Bench bench = new Bench(title);
        bench.does("type -1, var 0, keep 0, theorem 1, keep 2, type -1, var 1, keep 1, theorem 1, keep 3, pop, pop");
        return bench;
    }

    private static void followingEquations() {
        Bench bench = withFormulas("promise 8, EQMP");
        bench.does("type -1, constant 0, fetch 0, app, fetch 1, app, theorem 1, keep 4, fetch 2, join 0");
        bench.showsTheorem("10 1 1", "10 0 1", "12 12 11 0 1 10 0 1 10 1 1").answers(1, "count 0");
        bench.does("pop, fetch 4, fetch 0, theorem 3, join 0");
        bench.showsTheorem("10 1 1", "12 12 11 0 1 10 0 1 10 1 1");
        bench.does("fetch 0, theorem 0, fetch 2, join 0").showsTheorem("10 0 1", "10 0 1");
    }

    private static void sameUpToBoundNames() {
        Bench bench = withFormulas("promise 8, EQMP with bound variables called otherwise");
        bench.does("type 0, type 0, type 4, constant 0, keep 4, type 0, var 0, type 0, var 0, abs, app");
        bench.does("type 0, var 1, type 0, var 1, abs, app, keep 5, theorem 0");
        bench.does("fetch 4, type 0, var 3, type 0, var 3, abs, app, type 0, var 4, type 0, var 4, abs, app, theorem 1");
        bench.does("join 0").showsTheorem("12 12 11 0 0 2 2 13 2 20 13 2 20", "12 12 11 0 0 2 2 13 2 20 13 2 20");
    }

    private static void misfitsOfFollowing() {
        Bench bench = withFormulas("promise 8, EQMP refused");
        bench.does("fetch 2, fetch 2").refuses(2, "join 0");
        bench.does("pop, pop, fetch 0, theorem 0, fetch 3").refuses(2, "join 0");
        bench.does("pop, type -1, constant 0, fetch 0, app, fetch 1, app, theorem 1, keep 4, pop, pop");
        bench.does("fetch 4, fetch 3").refuses(2, "join 0").does("pop, fetch 4").refuses(2, "join 0");
        Bench other = new Bench("promise 8, a defined constant makes no equation");
        other.does("type -1, constant 0, theorem 4, pop, constant 1, type -1, var 0, keep 0, app, fetch 0, app, theorem 1");
        other.does("keep 1, fetch 0, theorem 1").refuses(2, "join 0");
        other.does("pop, fetch 1").refuses(2, "join 1");
        other.does("type -1, var 0, fetch 1").refuses(2, "absThm");
    }

    private static void applyingEquations() {
        Bench bench = withFormulas("promise 8, APP");
        bench.does("type -1, type 0, type 4, var 3, keep 4, type -1, type 0, type 4, constant 0, fetch 4, app");
        bench.does("type -1, type 0, type 4, var 2, app, theorem 1");
        bench.does("type -1, constant 0, fetch 0, app, fetch 1, app, theorem 1, join 1");
        bench.showsTheorem("12 12 11 0 2 12 10 3 0 1 2 10 0 1 12 10 2 0 1 2 10 1 1",
                "12 12 11 0 0 1 2 10 3 0 1 2 10 2 0 1 2", "12 12 11 0 1 10 0 1 10 1 1");
        bench.answers(2, "count 0");
        bench.does("type 0, constant 0, theorem 0, type 0, var 0, theorem 0, join 1");
        bench.showsTheorem("12 12 11 0 0 2 1 12 11 0 2 10 0 2 12 11 0 2 10 0 2");
    }

    private static void misfitsOfApplying() {
        Bench bench = withFormulas("promise 8, APP refused");
        bench.does("type -1, type 0, type 4, var 3, theorem 0, keep 4, type 0, var 0, theorem 0, keep 5");
        bench.refuses(2, "join 1");
        bench.does("pop, fetch 2").refuses(2, "join 1");
        bench.does("fetch 4").refuses(2, "join 1");
        bench.does("fetch 4").refuses(2, "join 1");
        bench.does("fetch 5, fetch 5").refuses(2, "join 1");
        bench.does("fetch 0, theorem 0, keep 0").refuses(2, "join 1");
        bench.does("fetch 4, fetch 0, join 1").showsTheorem("12 12 11 0 2 12 10 3 0 1 2 10 0 1 12 10 3 0 1 2 10 0 1");
    }

    private static void deducing() {
        Bench bench = withFormulas("promise 8, DEDUCT");
        bench.does("fetch 2, fetch 3, join 2");
        bench.showsTheorem("12 12 11 0 1 10 0 1 10 1 1", "10 0 1", "10 1 1").answers(1, "count 0");
        bench.does("keep 4, fetch 2, join 2");
        bench.showsTheorem("12 12 11 0 1 12 12 11 0 1 10 0 1 10 1 1 10 0 1", "10 0 1", "10 1 1");
        bench.does("fetch 2, fetch 4, join 2");
        bench.showsTheorem("12 12 11 0 1 10 0 1 12 12 11 0 1 10 0 1 10 1 1", "10 0 1", "10 1 1");
        bench.does("fetch 0, theorem 3, keep 5, fetch 4, join 2");
        bench.showsTheorem("12 12 11 0 1 10 0 1 12 12 11 0 1 10 0 1 10 1 1", "10 1 1");
        bench.does("fetch 4, fetch 5, join 2");
        bench.showsTheorem("12 12 11 0 1 12 12 11 0 1 10 0 1 10 1 1 10 0 1", "10 1 1");
        bench.does("fetch 2, fetch 2, join 2").showsTheorem("12 12 11 0 1 10 0 1 10 0 1");
        bench.does("fetch 3, fetch 2, join 2").showsTheorem("12 12 11 0 1 10 1 1 10 0 1", "10 0 1", "10 1 1");
    }

    private static void orderOfHypotheses() {
        Bench bench = withFormulas("promise 8, the order of hypotheses");
        bench.does("type -1, constant 0, fetch 0, app, fetch 1, app, theorem 1, fetch 3, fetch 2, join 2, join 2");
        bench.showsTheorem("12 12 11 0 1 12 12 11 0 1 10 0 1 10 1 1 12 12 11 0 1 10 1 1 10 0 1",
                "10 0 1", "10 1 1", "12 12 11 0 1 10 0 1 10 1 1");
        bench.answers(3, "length 0 1").answers(3, "length 0 2").answers(11, "length 0 3").answers(-1, "length 0 4");
    }

    /** Rows that differ in their first symbol, in a name, in their last name, and in a bound variable's number. */
    private static void orderByTheFirstDifference() {
        Bench bench = new Bench("promise 8, the order of a variable, a constant and an application");
        bench.does("type -1, type -1, type 4, constant 0, type -1, var 0, type -1, var 0, abs, keep 0, app, fetch 0, app");
        bench.does("theorem 4, pop, " + Recipes.type(3) + ", var 0, type -1, var 0, app, theorem 1, keep 1");
        bench.does("constant 1, theorem 1, keep 2, join 2").showsTheorem("12 12 11 0 1 12 10 0 0 1 1 10 0 1 11 1 1",
                "11 1 1", "12 10 0 0 1 1 10 0 1");
        bench.does("type -1, var 5, theorem 1, join 2").answers(3, "hypotheses 0");
        bench.shows(0, 1, "10 5 1").shows(0, 2, "11 1 1").shows(0, 3, "12 10 0 0 1 1 10 0 1");
        bench.does("pop, type -1, var 5, theorem 1, fetch 2, join 2").shows(0, 1, "10 5 1").shows(0, 2, "11 1 1");
        bench = new Bench("promise 8, the order of rows that differ in their last name");
        for (int name = 7; name >= 5; name--) {
            bench.does(Recipes.equation(Recipes.truth(0), Recipes.truth(name)) + ", theorem 1, type -1, var 0, theorem 3, join 0");
        }
        bench.does("join 2, join 2").showsTheorem("12 12 11 0 1 10 7 1 12 12 11 0 1 10 6 1 10 5 1", "12 12 11 0 1 10 0 1 10 5 1",
                "12 12 11 0 1 10 0 1 10 6 1", "12 12 11 0 1 10 0 1 10 7 1");
        bench = new Bench("promise 8, the order of a bound and a free variable").does("type -1, var 0, keep 0, pop");
        bench.does("fetch 0, fetch 0, abs, fetch 0, app, theorem 1, type -1, var 1, fetch 0, abs, fetch 0, app, theorem 1, join 2");
        bench.answers(2, "hypotheses 0").shows(0, 1, "12 13 1 10 0 1 10 0 1").shows(0, 2, "12 13 1 20 10 0 1");
    }
}
