/** Promises 12 to 15: the dictionary, pop() and the list of what was exported. */
final class StoresTest {
    public static void main(String[] args) {
        keeping();
        fetching();
        popping();
        exporting();
        Bench.close("StoresTest");
    }

    private static void keeping() {
        Bench bench = new Bench("promise 12");
        bench.refuses(1, "keep 0").refuses(1, "keep 6").refuses(1, "keep -1");
        bench.does("type 0").refuses(2, "keep 6").refuses(2, "keep -1");
        bench.refuses(2, "keep " + Integer.MAX_VALUE).refuses(2, "keep " + Integer.MIN_VALUE);
        bench.does("keep 0").answers(1, "count 0").shows(0, 0, "2").shows(100, 0, "2").answers(0, "kind 100");
        bench.answers(2, "count 4").answers(-1, "kind 101");
        bench.does("type 1, var 4, keep 5").shows(105, 0, "10 4 3").answers(1, "kind 105").answers(2, "count 0");
        bench.does("theorem 0, keep 0").answers(2, "kind 100").shows(100, 0, "12 12 11 0 3 10 4 3 10 4 3");
        bench.shows(105, 0, "10 4 3").shows(0, 0, "12 12 11 0 3 10 4 3 10 4 3").shows(1, 0, "2");
        bench.does("pop, pop").answers(2, "kind 100").answers(1, "kind 105");
    }

    private static void fetching() {
        Bench bench = new Bench("promise 13");
        for (int key = -1; key <= 6; key++) {
            bench.refuses(2, "fetch " + key);
        }
        bench.refuses(2, "fetch " + Integer.MAX_VALUE).refuses(2, "fetch " + Integer.MIN_VALUE);
        bench.does("type -1, var 1, keep 3, theorem 1, keep 0, pop").answers(0, "count 0");
        bench.refuses(2, "fetch 1").does("fetch 3").shows(0, 0, "10 1 1").answers(1, "kind 0").answers(1, "kind 103");
        bench.does("fetch 0").showsTheorem("10 1 1", "10 1 1").answers(2, "count 0");
        bench.does("fetch 3, fetch 3").answers(4, "count 0").shows(0, 0, "10 1 1").shows(103, 0, "10 1 1");
    }

    private static void popping() {
        Bench bench = new Bench("promise 14");
        bench.refuses(1, "pop");
        bench.does("type 0, type 1, var 0, type -1, var 0, theorem 1, pop").answers(2, "count 0").shows(0, 0, "10 0 3");
        bench.does("pop").shows(0, 0, "2").answers(8, "count 4");
        bench.does("pop").answers(0, "count 0").answers(9, "count 4").refuses(1, "pop");
        bench.answers(-1, "kind 0").answers(0, "count 2");
    }

    private static void exporting() {
        Bench bench = new Bench("promise 15");
        bench.refuses(1, "export").does("type -1").refuses(1, "export").does("var 0").refuses(1, "export");
        bench.does("theorem 1, keep 0, export").answers(0, "count 0").answers(1, "count 2").answers(0, "count 1");
        bench.answers(2, "kind 300").answers(1, "hypotheses 300").shows(300, 0, "10 0 1").shows(300, 1, "10 0 1");
        bench.does("type 0, var 7, theorem 0, export, fetch 0, export").answers(3, "count 2");
        bench.shows(301, 0, "12 12 11 0 2 10 7 2 10 7 2").shows(302, 0, "10 0 1").answers(0, "hypotheses 301");
        bench.refuses(1, "export").answers(-1, "kind 303");
    }
}
