/** Promises 1 to 6: a new object, and the commands that make types and terms. */
final class TermsTest {
    public static void main(String[] args) {
        newObject();
        simpleTypes();
        functionTypes();
        variables();
        equalAtTypes();
        definedConstants();
        applications();
        applicationsOfAbstractions();
        abstractions();
        boundVariables();
        Bench.close("TermsTest");
    }

    private static void newObject() {
        Bench bench = new Bench("promise 1");
        for (int list = 0; list < 5; list++) {
            bench.answers(0, "count " + list);
        }
        for (int place : new int[] {0, 1, 11, 100, 105, 200, 204, 300, 304}) {
            bench.answers(-1, "kind " + place).answers(-1, "hypotheses " + place);
            bench.answers(-1, "length " + place + " 0").answers(-1, "symbol " + place + " 0 0");
        }
        bench.answers(2, "constant 1").answers(2, "fetch 0").answers(1, "pop");
        bench.does("type 0, constant 0").shows(0, 0, "11 0 2");
        new Bench("promise 1, a second object").answers(0, "count 0").answers(0, "count 4");
    }

    private static void simpleTypes() {
        Bench bench = new Bench("promise 2, simple types");
        bench.does("type -1").shows(0, 0, "1").answers(0, "kind 0");
        bench.does("type 0").shows(0, 0, "2");
        bench.does("type 1").shows(0, 0, "3");
        bench.does("type 2").shows(0, 0, "4");
        bench.does("type 3").shows(0, 0, "5").answers(5, "count 0");
        bench.refuses(2, "type 5").refuses(2, "type -2");
        bench.refuses(2, "type " + Integer.MAX_VALUE).refuses(2, "type " + Integer.MIN_VALUE);
    }

    private static void functionTypes() {
        Bench bench = new Bench("promise 2, functions");
        bench.refuses(1, "type 4").refuses(2, "type 5");
        bench.does("type -1").refuses(1, "type 4");
        bench.does("type 3, type 4").shows(0, 0, "0 1 5").answers(1, "count 0");
        bench.does("keep 0, type 0, type 4").shows(0, 0, "0 0 1 5 2");
        bench.does("fetch 0, type 4").shows(0, 0, "0 0 0 1 5 2 0 1 5");
        bench.does("type 0, var 0").refuses(1, "type 4");
        bench.does("type 0").refuses(1, "type 4").refuses(2, "type -2");
    }

    private static void variables() {
        Bench bench = new Bench("promise 3");
        bench.refuses(1, "var 0").refuses(1, "var 8");
        bench.does("type -1, type 0, type 4, keep 0, var 7").shows(0, 0, "10 7 0 1 2").answers(1, "kind 0");
        bench.refuses(1, "var 0").refuses(1, "var -1");
        bench.does("type 1").refuses(2, "var 8").refuses(2, "var -1");
        bench.refuses(2, "var " + Integer.MIN_VALUE).refuses(2, "var " + Integer.MAX_VALUE);
        bench.does("var 0").shows(0, 0, "10 0 3").answers(2, "count 0");
    }

    private static void equalAtTypes() {
        Bench bench = new Bench("promise 4, EQUAL");
        bench.refuses(1, "constant 0").refuses(2, "constant -1").refuses(2, "constant 1");
        bench.does("type 2, constant 0").shows(0, 0, "11 0 4").answers(1, "kind 0").answers(1, "count 0");
        bench.refuses(1, "constant 0");
        bench.does("type -1, type 2, type 4, constant 0").shows(0, 0, "11 0 0 1 4");
        bench.refuses(2, "constant " + Integer.MAX_VALUE).refuses(2, "constant " + Integer.MIN_VALUE);
    }

    private static void definedConstants() {
        Bench bench = new Bench("promise 4, defined constants");
        bench.does("type 1, var 0, type 1, var 0, abs, theorem 4, keep 0");
        bench.refuses(2, "constant 2");
        bench.does("constant 1").shows(0, 0, "11 1 0 3 3").answers(2, "count 0");
        bench.does("type -1, fetch 0, instType 1").shows(0, 0, "12 12 11 0 0 1 1 11 1 0 1 1 13 1 20");
        bench.does("constant 1").shows(0, 0, "11 1 0 3 3");
        bench.does("type -1, constant 0, theorem 4, constant 2").shows(0, 0, "11 2 0 1 0 1 1");
        bench.does("constant 1").shows(0, 0, "11 1 0 3 3").refuses(2, "constant 3").refuses(2, "constant -1");
    }

    private static void applications() {
        Bench bench = new Bench("promise 5");
        bench.refuses(1, "app").does("type -1, var 0, keep 0").refuses(1, "app");
        bench.does("type -1").refuses(1, "app").does("pop");
        bench.does("fetch 0").refuses(2, "app");
        bench.does("type -1, type 0, type 4, var 1, keep 1").refuses(2, "app");
        bench.does("fetch 0, app").shows(0, 0, "12 10 1 0 1 2 10 0 1").answers(3, "count 0");
        bench.does("fetch 1, type 0, var 0").refuses(2, "app");
        bench.does("fetch 1, fetch 1").refuses(2, "app");
        bench.does("theorem 0, keep 2").refuses(1, "app").does("fetch 0").refuses(1, "app");
    }

    private static void applicationsOfAbstractions() {
        Bench bench = new Bench("promise 5, types of terms");
        bench.does("type 0, var 0, keep 0, type 1, var 1, keep 1, pop, pop");
        bench.does("fetch 0, fetch 1, fetch 0, abs, abs, keep 2").shows(0, 0, "13 2 13 3 21");
        bench.does("fetch 1").refuses(2, "app").does("pop, fetch 0, app");
        bench.shows(0, 0, "12 13 2 13 3 21 10 0 2");
        bench.does("fetch 0").refuses(2, "app").does("pop, fetch 1, app");
        bench.shows(0, 0, "12 12 13 2 13 3 21 10 0 2 10 1 3");
        bench.does("keep 3, type 0, constant 0, fetch 3, app, fetch 3, app, keep 4").answers(31, "length 0 0");
        bench.does("type 1, constant 0, fetch 3").refuses(2, "app");
        bench.does("pop, fetch 1, app, fetch 1, app, theorem 1").answers(1, "hypotheses 0");
    }

    private static void abstractions() {
        Bench bench = new Bench("promise 6");
        bench.refuses(1, "abs").does("type 0, var 0, keep 0").refuses(1, "abs");
        bench.does("type 1").refuses(1, "abs");
        bench.does("var 0, abs").shows(0, 0, "13 2 10 0 3").answers(1, "count 0");
        bench.does("fetch 0").refuses(1, "abs");
        bench.does("fetch 0, abs").shows(0, 0, "13 2 20");
        bench.does("theorem 0, keep 1, fetch 0").refuses(1, "abs");
        bench.does("fetch 1").refuses(1, "abs");
    }

    private static void boundVariables() {
        Bench bench = new Bench("promise 6, bound variables");
        bench.does("type 0, type 0, type 4, var 2, keep 2, type 0, var 0, keep 0, app, keep 3, pop");
        bench.does("fetch 0, fetch 2, fetch 3, abs, abs").shows(0, 0, "13 2 13 0 2 2 12 20 21");
        bench.does("fetch 0, fetch 0, fetch 0, abs, abs").shows(0, 0, "13 2 13 2 20");
        bench.does("fetch 2, fetch 0, fetch 3, abs, fetch 3, app, abs");
        bench.shows(0, 0, "13 0 2 2 12 13 2 12 21 20 12 20 10 0 2");
        bench.does("keep 4, fetch 0, fetch 4, abs");
        bench.shows(0, 0, "13 2 13 0 2 2 12 13 2 12 21 20 12 20 21");
    }
}
