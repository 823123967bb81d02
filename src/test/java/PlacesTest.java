/**
 * Promises 1 and 16 to 20 at their edges: an empty machine, one in which all that has a limit is full, the last
 * place, part and symbol, and those before the first and after the last.
 */
final class PlacesTest {
    private static final int[] EMPTY_PLACES = {
        -1, -2, -100, -200, -300, Integer.MIN_VALUE, Integer.MIN_VALUE + 1, 12, 13, 50, 99, 106, 107, 150, 199, 205, 206,
        250, 299, 305, 306, 350, 399, 400, 401, 500, 1000, 1 << 16, Integer.MAX_VALUE - 1, Integer.MAX_VALUE,
    };
    private static final int[] WRONG_NUMBERS = {
        -1, -2, -100, Integer.MIN_VALUE, Integer.MIN_VALUE + 1, 41, 99, 256, 1 << 16, Integer.MAX_VALUE - 1, Integer.MAX_VALUE,
    };

    public static void main(String[] args) {
        newObjectIsEmpty();
        newObjectRefuses();
        countsOfTheFullMachine();
        placesOfTheFullMachine();
        nothingAtEmptyPlaces();
        placesFillAndEmpty();
        hypothesesFromNoneToThree();
        partsOfTheorems();
        partsOfTypesAndTerms();
        symbolsOfShortRows();
        symbolsOfLongRows();
        questionsChangeNothing();
        lastCallOfAnObject();
        Bench.close("PlacesTest");
    }

    private static void newObjectIsEmpty() {
        Bench bench = new Bench("promise 1: all is empty");
        for (int list = 0; list <= 4; list++) {
            bench.answers(0, "count " + list);
        }
        for (int bank = 0; bank <= 300; bank += 100) {
            for (int place = bank - 1; place <= bank + 12; place++) {
                bench.answers(-1, "kind " + place).answers(-1, "hypotheses " + place);
                bench.answers(-1, "length " + place + " 0").answers(-1, "symbol " + place + " 0 0");
            }
        }
    }

    private static void newObjectRefuses() {
        for (Ready ready : Ready.all()) {
            Bench bench = new Bench("promise 1: on a new object");
            if (ready.call().startsWith("fetch") || ready.call().startsWith("constant") && !ready.call().endsWith(" 0")) {
                bench.refuses(2, ready.call());
            } else if (ready.taken() > 0) {
                bench.refuses(1, ready.call());
            } else {
                bench.does(ready.call()).answers(1, "count 0");
            }
        }
    }

    /** 12 types at the stack's places 11 to 0, 6 keys, 5 theorems assumed, 5 exported, 6 constants. */
    private static Bench full(String title) {
        Bench bench = new Bench(title).does("type -1, constant 0, keep 0");
        bench.does(Recipes.repeated(6, "fetch 0, theorem 4, pop") + ", pop");
        for (int i = 0; i < 5; i++) {
            bench.does("type -1, var " + i + ", keep 1, theorem 3, pop, fetch 1, theorem 1, export");
        }
        bench.does("type 0, keep 0, pop, type 1, var 1, keep 2, theorem 0, keep 3, pop");
        bench.does(Recipes.assumed(0, 3) + ", keep 4, keep 5, pop, type -1, type -1, type -1");
        return bench.does("type 3, type 2, type 1, type 3, type 2, type 1, type 3, type 2, type 1");
    }

    private static void countsOfTheFullMachine() {
        Bench bench = full("promise 16: lists 0 .. 4");
        bench.answers(12, "count 0").answers(5, "count 1").answers(5, "count 2").answers(6, "count 3").answers(97, "count 4");
        for (int list : new int[] {-1, 5, 6, -2, 100, 256, Integer.MAX_VALUE, Integer.MIN_VALUE}) {
            bench.answers(-1, "count " + list);
        }
        bench.refuses(4, "type 0").answers(97, "count 4").does("pop").answers(98, "count 4").answers(11, "count 0");
    }

    private static void placesOfTheFullMachine() {
        Bench bench = full("promise 17: places");
        for (int place = 0; place < 12; place++) {
            bench.answers(0, "kind " + place).answers(1, "length " + place + " 0").answers(-1, "hypotheses " + place);
            bench.answers(place > 8 ? 1 : 3 + place % 3, "symbol " + place + " 0 0");
        }
        int[] kinds = {0, 1, 1, 2, 2, 2};
        for (int key = 0; key < 6; key++) {
            bench.answers(kinds[key], "kind " + (100 + key)).answers(key < 3 ? -1 : key == 3 ? 0 : 3, "hypotheses " + (100 + key));
        }
        for (int k = 0; k < 5; k++) {
            bench.answers(2, "kind " + (200 + k)).answers(0, "hypotheses " + (200 + k));
            bench.answers(k, "symbol " + (200 + k) + " 0 1").answers(-1, "symbol " + (200 + k) + " 1 1");
            bench.answers(2, "kind " + (300 + k)).answers(1, "hypotheses " + (300 + k));
            bench.answers(k, "symbol " + (300 + k) + " 0 1").answers(k, "symbol " + (300 + k) + " 1 1");
        }
    }

    private static void nothingAtEmptyPlaces() {
        String[] questions = {"kind %", "hypotheses %", "length % 0", "length % 1", "symbol % 0 0", "symbol % 1 0"};
        for (String question : questions) {
            Bench bench = full("promises 17 to 20: nothing at");
            for (int place : EMPTY_PLACES) {
                bench.answers(-1, question.replace("%", String.valueOf(place)));
            }
            for (int bank = 0; bank <= 300; bank += 100) {
                for (int place = bank + 12; place < bank + 100; place++) {
                    bench.answers(-1, question.replace("%", String.valueOf(place)));
                }
            }
        }
    }

    private static void placesFillAndEmpty() {
        Bench bench = new Bench("promise 17: p others above it");
        for (int size = 1; size <= 12; size++) {
            bench.does("type 0").answers(0, "kind " + (size - 1)).answers(-1, "kind " + size);
        }
        for (int size = 11; size >= 0; size--) {
            bench.does("pop").answers(-1, "kind " + size).answers(-1, "length " + size + " 0").answers(size, "count 0");
            bench.answers(size > 0 ? 0 : -1, "kind " + (size - 1));
        }
        bench = new Bench("promise 17: the dictionary's for key k").does("type 0");
        for (int key = 0; key <= 5; key++) {
            bench.answers(-1, "kind " + (100 + key)).does("keep " + key).answers(0, "kind " + (100 + key));
        }
        bench.answers(-1, "kind 99").answers(-1, "kind 106").does("pop").answers(0, "kind 100").answers(0, "kind 105");
    }

    private static void hypothesesFromNoneToThree() {
        Bench bench = new Bench("promise 18: how many hypotheses").does("type -1, var 0, theorem 0").answers(0, "hypotheses 0");
        for (int number = 1; number <= 3; number++) {
            bench.does(Recipes.assumed(0, number)).answers(number, "hypotheses 0").answers(number - 1, "hypotheses 1");
        }
        bench.does("keep 3, export").answers(3, "hypotheses 103").answers(3, "hypotheses 300").answers(-1, "hypotheses 301");
        bench.does("type 0").answers(-1, "hypotheses 0").does("var 0").answers(-1, "hypotheses 0").answers(2, "hypotheses 1");
    }

    private static void partsOfTheorems() {
        for (int number = 0; number <= 3; number++) {
            Bench bench = new Bench("promises 19 and 20: parts of a theorem with " + number + " hypotheses");
            bench.does(number == 0 ? "type -1, var 0, theorem 3" : Recipes.assumed(0, number)).does("keep 2");
            for (int place : new int[] {0, 102}) {
                for (int i = 1; i <= number; i++) {
                    bench.answers(3, "length " + place + " " + i).answers(i - 1, "symbol " + place + " " + i + " 1");
                    bench.answers(-1, "symbol " + place + " " + i + " 3").answers(-1, "symbol " + place + " " + i + " -1");
                }
                int[] lengths = {3, 3, 11, 19};
                bench.answers(lengths[number], "length " + place + " 0").answers(-1, "symbol " + place + " 0 " + lengths[number]);
                bench.answers(-1, "length " + place + " " + (number + 1));
                bench.answers(-1, "symbol " + place + " " + (number + 1) + " 0");
                noSuchPart(bench, place);
            }
        }
    }

    private static void partsOfTypesAndTerms() {
        for (String object : new String[] {"type 2", Recipes.type(15), "type 2, var 2", Recipes.formula(39)}) {
            Bench bench = new Bench("promises 19 and 20: parts of " + object).does(object + ", keep 2");
            for (int place : new int[] {0, 102}) {
                bench.answers(-1, "length " + place + " 1").answers(-1, "symbol " + place + " 1 0");
                bench.answers(-1, "length " + place + " 2").answers(-1, "length " + place + " 3");
                noSuchPart(bench, place);
            }
        }
    }

    private static void noSuchPart(Bench bench, int place) {
        for (int i : WRONG_NUMBERS) {
            bench.answers(-1, "length " + place + " " + i).answers(-1, "symbol " + place + " " + i + " 0");
        }
    }

    private static void symbolsOfShortRows() {
        Bench bench = new Bench("promise 20: symbols of a type with one symbol").does("type 3").answers(5, "symbol 0 0 0");
        bench.answers(-1, "symbol 0 0 1").answers(1, "length 0 0");
        noSuchSymbol(bench);
        bench = new Bench("promise 20: symbols of a variable").does("type 3, var 7").answers(10, "symbol 0 0 0");
        bench.answers(7, "symbol 0 0 1").answers(5, "symbol 0 0 2").answers(-1, "symbol 0 0 3").answers(3, "length 0 0");
        noSuchSymbol(bench);
    }

    private static void symbolsOfLongRows() {
        Bench bench = new Bench("promise 20: symbols of a type with 15").does(Recipes.type(15));
        for (int j = 0; j < 15; j++) {
            bench.answers(j == 14 ? 1 : j % 2, "symbol 0 0 " + j);
        }
        bench.answers(-1, "symbol 0 0 15").answers(-1, "symbol 0 0 16");
        noSuchSymbol(bench);
        bench = new Bench("promise 20: symbols of a theorem with 39").does(Recipes.formula(39) + ", theorem 1");
        bench.answers(12, "symbol 0 0 0").answers(12, "symbol 0 1 0").answers(1, "symbol 0 0 38").answers(1, "symbol 0 1 38");
        bench.answers(5, "symbol 0 0 37").answers(10, "symbol 0 1 36").answers(-1, "symbol 0 0 39").answers(-1, "symbol 0 1 39");
        bench.answers(-1, "symbol 0 0 40").answers(-1, "symbol 0 1 40").answers(-1, "symbol 0 2 0");
        noSuchSymbol(bench);
    }

    private static void noSuchSymbol(Bench bench) {
        for (int j : WRONG_NUMBERS) {
            bench.answers(-1, "symbol 0 0 " + j).answers(-1, "symbol 0 1 " + j);
        }
    }

    /** A refusal compares the machine with one that was asked nothing. */
    private static void questionsChangeNothing() {
        Bench bench = full("promises 16 to 20: questions change nothing");
        for (int number : WRONG_NUMBERS) {
            for (int place : new int[] {number, 0, 104, 204, 304}) {
                bench.answers(-1, "length " + place + " " + number).answers(-1, "symbol " + place + " 0 " + number);
            }
            bench.answers(-1, "kind " + number).answers(-1, "hypotheses " + number).answers(-1, "count " + number);
        }
        bench.refuses(2, "type 5").refuses(4, "type 0").answers(97, "count 4");
    }

    private static void lastCallOfAnObject() {
        for (int last = 0; last < 3; last++) {
            SequentMachine machine = new SequentMachine();
            for (int i = 0; i < 511 - 119; i++) {
                Bench.check("count(4) as call " + i, machine.count(4), 0);
            }
            for (String call : Recipes.calls(Recipes.idle(118) + ", type 3")) {
                Bench.check(call, Bench.perform(machine, call), 0);
            }
            String call = new String[] {"type 4", "pop", "symbol 0 0 0"}[last];
            Bench.check(call + " as call 512", Bench.perform(machine, call), new int[] {1, 0, 5}[last]);
        }
    }
}
