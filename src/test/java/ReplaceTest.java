/** Promises 9 to 11: abstractions of theorems, and replacing in theorems. */
final class ReplaceTest {
    public static void main(String[] args) {
        abstractionsOfTheorems();
        refusedAbstractions();
        instances();
        instancesKeepFreeVariablesFree();
        instancesJoinHypotheses();
        refusedInstances();
        typeInstances();
        typeInstancesKeepFreeVariablesFree();
        typeInstancesJoinHypotheses();
        typeInstancesLeaveNumbers();
        refusedTypeInstances();
        Bench.close("ReplaceTest");
    }

    private static void abstractionsOfTheorems() {
        Bench bench = new Bench("promise 9");
        bench.does("type 0, var 0, keep 0, fetch 0, theorem 0, absThm");
        bench.showsTheorem("12 12 11 0 0 2 2 13 2 20 13 2 20").answers(1, "count 0");
        bench.does("type 1, constant 0, type 1, var 1, app, type 1, var 2, app, theorem 1, keep 1, pop");
        bench.does("fetch 0, fetch 1, absThm");
        bench.showsTheorem("12 12 11 0 0 2 3 13 2 10 1 3 13 2 10 2 3", "12 12 11 0 3 10 1 3 10 2 3");
        bench.does("type 0, var 1, fetch 1, absThm").answers(1, "hypotheses 0");
        bench.does("type 1, var 1, fetch 0, type 1, var 1, abs, theorem 0, absThm");
        bench.showsTheorem("12 12 11 0 0 3 0 2 3 13 3 13 2 21 13 3 13 2 21");
    }

    private static void refusedAbstractions() {
        Bench bench = new Bench("promise 9, refused");
        bench.refuses(1, "absThm").does("type -1, var 0, keep 0").refuses(1, "absThm");
        bench.does("theorem 1, keep 1").refuses(1, "absThm");
        bench.does("type -1, fetch 1").refuses(1, "absThm");
        bench.does("fetch 0, fetch 0").refuses(1, "absThm");
        bench.does("fetch 1").refuses(2, "absThm");
        bench.does("pop, pop, fetch 0, abs, fetch 0, theorem 0").refuses(1, "absThm");
        Bench other = new Bench("promise 9, a variable that is free in a hypothesis");
        other.does("type -1, constant 0, type -1, var 1, app, type -1, var 2, app, theorem 1, keep 0, pop");
        other.does("type -1, var 1, fetch 0").refuses(3, "absThm");
        other.does("type -1, var 2, fetch 0").refuses(3, "absThm");
        other.does("type -1, var 3, fetch 0, absThm, pop");
        other.does("type -1, var 3, type -1, var 3, theorem 1").refuses(2, "absThm");
    }

    private static void instances() {
        Bench bench = new Bench("promise 10");
        bench.does("type -1, var 0, keep 0, theorem 1, keep 1, pop");
        bench.does("fetch 0, type -1, var 5, keep 2, fetch 1, inst").showsTheorem("10 5 1", "10 5 1").answers(1, "count 0");
        bench.does("type -1, var 1, fetch 2, fetch 1, inst").showsTheorem("10 0 1", "10 0 1");
        bench.does("fetch 0, type -1, constant 0, fetch 0, app, fetch 0, app, fetch 1, inst");
        bench.showsTheorem("12 12 11 0 1 10 0 1 10 0 1", "12 12 11 0 1 10 0 1 10 0 1");
        bench.does("type 0, var 0, type 0, var 1, fetch 1, inst").showsTheorem("10 0 1", "10 0 1");
        bench.does("fetch 0, fetch 2, fetch 0, fetch 0, abs, theorem 0, inst");
        bench.showsTheorem("12 12 11 0 0 1 1 13 1 20 13 1 20");
    }

    private static void instancesKeepFreeVariablesFree() {
        Bench bench = new Bench("promise 10, free variables stay free");
        bench.does("type 0, var 0, keep 0, type 0, var 1, keep 1, pop, pop");
        bench.does("fetch 0, fetch 1, abs, theorem 0, keep 2, pop, fetch 1, fetch 0, fetch 2, inst");
        bench.showsTheorem("12 12 11 0 0 2 2 13 2 10 0 2 13 2 10 0 2");
    }

    private static void instancesJoinHypotheses() {
        Bench bench = new Bench("promise 10, hypotheses");
        bench.does("type -1, var 0, keep 0, theorem 1, type -1, var 1, keep 1, theorem 1, join 2, keep 2, pop");
        bench.does("fetch 0, fetch 1, fetch 2, inst").showsTheorem("12 12 11 0 1 10 1 1 10 1 1", "10 1 1");
        bench.does("fetch 0, type -1, var 7, fetch 2, inst");
        bench.showsTheorem("12 12 11 0 1 10 7 1 10 1 1", "10 1 1", "10 7 1");
        bench.does("fetch 0, type -1, constant 0, fetch 1, app, fetch 1, app, fetch 2, inst");
        bench.showsTheorem("12 12 11 0 1 12 12 11 0 1 10 1 1 10 1 1 10 1 1", "10 1 1", "12 12 11 0 1 10 1 1 10 1 1");
    }

    private static void refusedInstances() {
        Bench bench = new Bench("promise 10, refused");
        bench.refuses(1, "inst").does("type -1, var 0, keep 0").refuses(1, "inst");
        bench.does("fetch 0, theorem 1, keep 1").refuses(1, "inst");
        bench.does("pop, fetch 0").refuses(1, "inst").does("fetch 1, keep 1");
        bench.does("inst, pop, type 0, var 0, keep 2, fetch 0, fetch 1").refuses(2, "inst");
        bench.does("type 0, fetch 0, fetch 1").refuses(1, "inst");
        bench.does("pop, pop, type 0, fetch 1").refuses(1, "inst");
        bench.does("pop, pop, pop, fetch 0, fetch 0, abs, fetch 0, fetch 1").refuses(1, "inst");
        Bench other = new Bench("promise 10, one of three objects is wrong");
        other.does("type -1, var 0, keep 0, theorem 1, keep 1, pop, fetch 0, type -1, fetch 1").refuses(1, "inst");
        other.does("pop, pop, fetch 1, fetch 1").refuses(1, "inst");
        other.does("pop, pop, fetch 0, type -1").refuses(1, "inst");
        other.does("pop, fetch 0").refuses(1, "inst").does("pop, fetch 1, inst");
    }

    private static void typeInstances() {
        Bench bench = new Bench("promise 11");
        bench.does("type 0, var 0, keep 0, type 1, constant 0, abs, theorem 0, keep 1, pop");
        bench.does("type -1, fetch 1, instType 0");
        bench.showsTheorem("12 12 11 0 0 1 0 3 0 3 1 13 1 11 0 3 13 1 11 0 3").answers(1, "count 0");
        bench.does("type 0, type -1, type 4, fetch 1, instType 1");
        bench.showsTheorem("12 12 11 0 0 2 0 0 2 1 0 0 2 1 1 13 2 11 0 0 2 1 13 2 11 0 0 2 1");
        bench.does("type 0, fetch 1, instType 1");
        bench.showsTheorem("12 12 11 0 0 2 0 2 0 2 1 13 2 11 0 2 13 2 11 0 2");
        bench.does("type 3, fetch 1, instType 2");
        bench.showsTheorem("12 12 11 0 0 2 0 3 0 3 1 13 2 11 0 3 13 2 11 0 3");
        bench.does("type 0, type 0, type 4, fetch 0, theorem 0, instType 0");
        bench.showsTheorem("12 12 11 0 0 2 2 10 0 0 2 2 10 0 0 2 2");
        bench.does("type -1, type 3, var 0, theorem 0, instType 3").showsTheorem("12 12 11 0 1 10 0 1 10 0 1");
    }

    private static void typeInstancesKeepFreeVariablesFree() {
        Bench bench = new Bench("promise 11, free variables stay free");
        bench.does("type 0, var 0, type 1, var 0, abs, theorem 0, keep 0, pop");
        bench.does("type 1, fetch 0, instType 0").showsTheorem("12 12 11 0 0 3 3 13 3 10 0 3 13 3 10 0 3");
        bench.does("type 0, fetch 0, instType 1").showsTheorem("12 12 11 0 0 2 2 13 2 10 0 2 13 2 10 0 2");
        bench.does("type 0, var 0, type 0, var 0, type 1, var 0, abs, abs, theorem 0, keep 0");
        bench.does("pop, type 1, fetch 0, instType 0");
        bench.showsTheorem("12 12 11 0 0 3 0 3 3 13 3 13 3 10 0 3 13 3 13 3 10 0 3");
    }

    private static void typeInstancesJoinHypotheses() {
        Bench bench = new Bench("promise 11, hypotheses");
        bench.does("type 0, type -1, type 4, var 0, type 0, var 0, app, theorem 1");
        bench.does("type 1, type -1, type 4, var 0, type 1, var 0, app, theorem 1, join 2, keep 0").answers(2, "hypotheses 0");
        bench.does("pop, type 0, fetch 0, instType 1");
        bench.showsTheorem("12 12 11 0 1 12 10 0 0 2 1 10 0 2 12 10 0 0 2 1 10 0 2", "12 10 0 0 2 1 10 0 2");
        bench.does("type 2, fetch 0, instType 0");
        bench.showsTheorem("12 12 11 0 1 12 10 0 0 4 1 10 0 4 12 10 0 0 3 1 10 0 3",
                "12 10 0 0 3 1 10 0 3", "12 10 0 0 4 1 10 0 4");
    }

    private static void typeInstancesLeaveNumbers() {
        Bench bench = new Bench("promise 11, names and numbers are no type variables");
        bench.does("type 0, var 2, theorem 0, keep 0, pop, type -1, fetch 0, instType 0");
        bench.showsTheorem("12 12 11 0 1 10 2 1 10 2 1");
        bench.does("type -1, constant 0, theorem 4, pop, type -1, constant 0, theorem 4, pop, constant 2, theorem 0, keep 1");
        bench.does("pop, type 3, fetch 1, instType 0").showsTheorem("12 12 11 0 0 1 0 1 1 11 2 0 1 0 1 1 11 2 0 1 0 1 1");
    }

    private static void refusedTypeInstances() {
        Bench bench = new Bench("promise 11, refused");
        bench.refuses(1, "instType 0").does("type 0").refuses(1, "instType 0").refuses(1, "instType 4");
        bench.does("type 0, var 0, theorem 0, keep 0").refuses(2, "instType 4").refuses(2, "instType -1");
        bench.refuses(2, "instType " + Integer.MAX_VALUE).refuses(2, "instType " + Integer.MIN_VALUE);
        bench.does("fetch 0").refuses(1, "instType 0").refuses(1, "instType -1");
        bench.does("pop, instType 0, pop").refuses(1, "instType 0");
        bench.does("fetch 0, type 0").refuses(1, "instType 0");
    }
}
