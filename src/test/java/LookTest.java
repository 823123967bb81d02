/** Promises 16 to 20: the questions, which change nothing. */
final class LookTest {
    private static final int[] NO_PLACES = {
        -1, -100, 4, 12, 99, 102, 106, 150, 199, 202, 205, 299, 301, 305, 400, 1000,
        Integer.MAX_VALUE, Integer.MIN_VALUE, Integer.MIN_VALUE + 300,
    };

    public static void main(String[] args) {
        counts();
        kinds();
        numbersOfHypotheses();
        lengths();
        symbols();
        emptyPlaces();
        Bench.close("LookTest");
    }

    /** Stack, from the top: a theorem with two hypotheses, one without, a term, a type. */
    private static Bench furnished(String title) {
        Bench bench = new Bench(title);
        bench.does("type 0, keep 0, type 1, var 6, keep 1");
        bench.does("type -1, var 0, theorem 3, type -1, var 1, theorem 3, export");
        bench.does("type -1, var 2, theorem 1, type -1, var 3, theorem 1, join 2");
        return bench;
    }

    private static void counts() {
        Bench bench = furnished("promise 16");
        bench.answers(4, "count 0").answers(2, "count 1").answers(1, "count 2").answers(0, "count 3").answers(19, "count 4");
        for (int list : new int[] {-1, 5, 100, Integer.MAX_VALUE, Integer.MIN_VALUE}) {
            bench.answers(-1, "count " + list);
        }
        bench.answers(1, "type 4").answers(2, "keep 9").answers(19, "count 4");
        bench.does("type 0, constant 0, theorem 4").answers(1, "count 3").answers(22, "count 4").answers(5, "count 0");
        bench.does("keep 4, fetch 4, pop").answers(25, "count 4");
    }

    private static void kinds() {
        Bench bench = furnished("promise 17");
        bench.answers(2, "kind 0").answers(2, "kind 1").answers(1, "kind 2").answers(0, "kind 3").answers(-1, "kind 4");
        bench.answers(0, "kind 100").answers(1, "kind 101").answers(-1, "kind 102").answers(-1, "kind 105");
        bench.answers(2, "kind 200").answers(2, "kind 201").answers(-1, "kind 202");
        bench.answers(2, "kind 300").answers(-1, "kind 301");
        bench.shows(200, 0, "10 0 1").shows(201, 0, "10 1 1").shows(300, 0, "10 1 1").shows(1, 0, "10 0 1");
    }

    private static void numbersOfHypotheses() {
        Bench bench = furnished("promise 18");
        bench.answers(2, "hypotheses 0").answers(0, "hypotheses 1").answers(-1, "hypotheses 2").answers(-1, "hypotheses 3");
        bench.answers(-1, "hypotheses 100").answers(-1, "hypotheses 101").answers(0, "hypotheses 200");
        bench.answers(0, "hypotheses 300").does("keep 3, export").answers(2, "hypotheses 103").answers(2, "hypotheses 301");
    }

    private static void lengths() {
        Bench bench = furnished("promise 19");
        bench.answers(11, "length 0 0").answers(3, "length 0 1").answers(3, "length 0 2").answers(-1, "length 0 3");
        bench.answers(3, "length 1 0").answers(-1, "length 1 1").answers(3, "length 2 0").answers(-1, "length 2 1");
        bench.answers(1, "length 3 0").answers(-1, "length 3 1").answers(1, "length 100 0").answers(-1, "length 100 1");
        bench.answers(3, "length 201 0").answers(-1, "length 201 1").answers(3, "length 300 0");
        for (int part : new int[] {-1, -2, 4, Integer.MAX_VALUE, Integer.MIN_VALUE}) {
            bench.answers(-1, "length 0 " + part).answers(-1, "length 3 " + part).answers(-1, "symbol 0 " + part + " 0");
        }
    }

    private static void symbols() {
        Bench bench = furnished("promise 20");
        int[] due = {12, 12, 11, 0, 1, 10, 2, 1, 10, 3, 1};
        for (int j = 0; j < due.length; j++) {
            bench.answers(due[j], "symbol 0 0 " + j);
        }
        bench.answers(-1, "symbol 0 0 11").answers(-1, "symbol 0 0 -1").answers(-1, "symbol 0 3 0");
        bench.answers(10, "symbol 0 1 0").answers(2, "symbol 0 1 1").answers(1, "symbol 0 1 2").answers(-1, "symbol 0 1 3");
        bench.answers(3, "symbol 0 2 1").answers(10, "symbol 2 0 0").answers(6, "symbol 2 0 1").answers(3, "symbol 2 0 2");
        bench.answers(2, "symbol 3 0 0").answers(-1, "symbol 3 0 1").answers(-1, "symbol 3 1 0").answers(2, "symbol 100 0 0");
        bench.answers(1, "symbol 201 0 1").answers(1, "symbol 300 0 2").answers(-1, "symbol 2 1 0");
        bench.answers(-1, "symbol 0 0 " + Integer.MAX_VALUE).answers(-1, "symbol 0 0 " + Integer.MIN_VALUE);
    }

    private static void emptyPlaces() {
        Bench bench = furnished("promises 17 to 20, empty places");
        for (int place : NO_PLACES) {
            bench.answers(-1, "kind " + place).answers(-1, "hypotheses " + place);
            bench.answers(-1, "length " + place + " 0").answers(-1, "length " + place + " 1");
            bench.answers(-1, "symbol " + place + " 0 0").answers(-1, "symbol " + place + " 1 0");
        }
        bench.answers(19, "count 4").answers(4, "count 0");
    }
}
