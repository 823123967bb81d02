import java.util.List;

/**
 * The answer 2 of every command whose number is too small or too large: it comes before the answer 4, and in
 * type() and constant() before the answer 1 as well (ObjectsTest has the others).
 */
final class NumbersTest {
    public static void main(String[] args) {
        for (Ready ready : Ready.all()) {
            List<String> pushes = ready.pushes(ready.taken());
            int below = Recipes.MOST_OBJECTS - ready.taken();
            refusals(ready, ready.machine("wrong numbers in", 0, pushes)).answers(0, ready.call());
            refusals(ready, ready.machine("wrong numbers and a full stack in", below, pushes));
            Bench tired = ready.machine("wrong numbers and no command left in", 1, pushes, Recipes.MOST_COMMANDS);
            refusals(ready, tired).refuses(4, ready.call());
        }
        wordsOfTypes();
        words();
        constantsAreCounted();
        keysWithoutObjects();
        Bench.close("NumbersTest");
    }

    private static Bench refusals(Ready ready, Bench bench) {
        for (String call : ready.withWrongNumbers()) {
            bench.refuses(2, call);
        }
        return bench;
    }

    private static void wordsOfTypes() {
        Bench bench = new Bench("promise 2: -1 BOOL, 0 .. 3 type variables");
        for (int k = -1; k <= 3; k++) {
            bench.does("type " + k).shows(0, 0, String.valueOf(k + 2)).answers(1, "length 0 0");
        }
        bench.answers(5, "count 0").refuses(2, "type -2").refuses(2, "type 5");
        bench.does("type 4").shows(0, 0, "0 4 5").answers(4, "count 0");
        for (int k = 0; k <= 3; k++) {
            bench = new Bench("promise 11: the type variable " + k).does("type " + k + ", var 0, theorem 0, keep 0, pop");
            for (int other = 0; other <= 3; other++) {
                String symbol = other == k ? "1" : String.valueOf(k + 2);
                bench.does("type -1, fetch 0, instType " + other);
                bench.shows(0, 0, "12 12 11 0 " + symbol + " 10 0 " + symbol + " 10 0 " + symbol);
            }
            bench.does("type -1, fetch 0").refuses(2, "instType -1").refuses(2, "instType 4");
        }
    }

    private static void words() {
        Bench bench = new Bench("promise 3: names 0 .. 7");
        for (int name = 0; name <= 7; name++) {
            bench.does("type 0, var " + name).shows(0, 0, "10 " + name + " 2");
        }
        bench.does("type 0").refuses(2, "var -1").refuses(2, "var 8").answers(9, "count 0");
        bench = new Bench("promises 12 and 13: keys 0 .. 5");
        for (int key = 0; key <= 5; key++) {
            bench.does("type 0, var " + key + ", keep " + key + ", pop");
        }
        for (int key = 0; key <= 5; key++) {
            bench.does("fetch " + key).shows(0, 0, "10 " + key + " 2").shows(100 + key, 0, "10 " + key + " 2");
        }
        bench.refusesAll(2, "keep -1, keep 6, fetch -1, fetch 6").answers(6, "count 0");
    }

    /** At every number of constants the last is there and the next is not, whatever lies on the stack. */
    private static void constantsAreCounted() {
        Bench bench = new Bench("promise 4: there is no constant c");
        bench.refuses(2, "constant 1").refuses(1, "constant 0");
        for (int c = 1; c <= 6; c++) {
            bench.does("type -1, constant 0, theorem 4, pop").refuses(2, "constant " + (c + 1));
            bench.does("constant " + c).shows(0, 0, "11 " + c + " 0 1 0 1 1").does("pop").refuses(2, "constant -1");
        }
        bench.refuses(1, "constant 0").does("type 0").refuses(2, "constant 7").does("constant 0").answers(1, "count 0");
    }

    private static void keysWithoutObjects() {
        Bench bench = new Bench("promise 13: nothing was kept for it");
        bench.refusesAll(2, "fetch 0, fetch 1, fetch 2, fetch 3, fetch 4, fetch 5");
        bench.does("type 0").refusesAll(2, "keep 6, keep -1, fetch 0, fetch 5");
        bench.does("keep 2").refusesAll(2, "fetch 1, fetch 3").does("fetch 2, pop, pop, fetch 2").answers(1, "count 0");
    }
}
