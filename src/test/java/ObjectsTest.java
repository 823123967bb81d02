import java.util.ArrayList;
import java.util.List;

/**
 * The answer 1 of every command: the objects at the top are not as it says, or there are too few. It comes before
 * the answers 2 to 4, but for type() and constant(), where a number that does not fit is tested first.
 */
final class ObjectsTest {
    /** An object of each sort: its letter, and the calls that make it; a variable is a term too. */
    private static final String[][] SAMPLES = {
        {"T", "type 1"}, {"T", "type 0, type 1, type 4"}, {"v", "type 1, var 1"}, {"t", "type 1, constant 0"},
        {"t", "type 1, constant 0, type 1, var 1, app"}, {"t", "type 1, var 1, type 1, var 1, abs"},
        {"h", "type 1, var 1, theorem 0"}, {"h", "type -1, var 1, theorem 1"},
    };

    public static void main(String[] args) {
        for (Ready ready : Ready.all()) {
            justEnough(ready);
            tooFew(ready);
            wrongSorts(ready);
        }
        constantsAreNoVariables();
        Bench.close("ObjectsTest");
    }

    /** What is taken is gone, what is put is there, and what lies below stays. */
    private static void justEnough(Ready ready) {
        List<String> pushes = ready.pushes(ready.taken());
        ready.machine("just enough for", 0, pushes).answers(0, ready.call()).answers(ready.puts(), "count 0");
        Bench bench = ready.machine("enough and two others below for", 2, pushes).answers(0, ready.call());
        bench.answers(2 + ready.puts(), "count 0").shows(ready.puts(), 0, "4").shows(ready.puts() + 1, 0, "4");
        bench.answers(-1, "kind " + (ready.puts() + 2));
    }

    private static void tooFew(Ready ready) {
        for (int number = 0; number < ready.taken(); number++) {
            List<String> pushes = ready.pushes(number);
            refusals(ready, ready.machine("too few for", 0, pushes));
            Bench tired = ready.machine("too few and no command left for", 0, pushes, Recipes.MOST_COMMANDS);
            tired.refuses(1, ready.call());
        }
    }

    private static void wrongSorts(Ready ready) {
        for (int i = 0; i < ready.taken(); i++) {
            for (String[] sample : SAMPLES) {
                if (!fits(sample[0], ready.takes().charAt(i))) {
                    wrongSort(ready, i, sample[1]);
                }
            }
        }
    }

    private static void wrongSort(Ready ready, int place, String sample) {
        String prepare = ready.prepare().isEmpty() ? sample : ready.prepare() + ", " + sample;
        Ready other = new Ready(ready.call(), ready.least(), ready.most(), prepare + ", keep 5, pop", ready.top(),
                ready.takes(), ready.puts());
        List<String> pushes = new ArrayList<>(ready.pushes(ready.taken()));
        pushes.set(place, "fetch 5");
        String title = sample + " as object " + place + " for";
        refusals(other, other.machine(title, 0, pushes));
        refusals(other, other.machine(title, 3, pushes));
        other.machine(title, 0, pushes, Recipes.MOST_COMMANDS).refuses(1, ready.call());
    }

    private static boolean fits(String sample, char wanted) {
        return wanted == 'o' || wanted == sample.charAt(0) || wanted == 't' && sample.equals("v");
    }

    private static void refusals(Ready ready, Bench bench) {
        bench.refuses(1, ready.call());
        for (String call : ready.withWrongNumbers()) {
            bench.refuses(ready.numberComesFirst() ? 2 : 1, call);
        }
    }

    /** A term that is just a defined constant is no variable, nor is one whose written form ends in one. */
    private static void constantsAreNoVariables() {
        Bench bench = new Bench("a defined constant in place of a variable").does("type 0, constant 0, theorem 4, pop");
        bench.does("constant 1, keep 0, type 0, var 0, keep 1").refuses(1, "abs");
        bench.does("theorem 0, keep 2").refuses(1, "absThm");
        bench.does("pop, fetch 0, fetch 2").refuses(1, "inst");
    }
}
