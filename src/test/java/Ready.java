import java.util.ArrayList;
import java.util.List;

/**
 * A call and what makes it ready to be done: commands that leave the stack empty, then calls that put one
 * object each, which the call takes. Takes has a letter for each: T a type, t a term, v a variable, h a theorem,
 * o any object. The call's number fits from least to most.
 */
record Ready(String call, int least, int most, String prepare, String top, String takes, int puts) {
    private static final int[] FAR_AWAY = {
        Integer.MIN_VALUE, Integer.MIN_VALUE + 1, Integer.MAX_VALUE, -256, 256, 1 << 16, -(1 << 16), 100, -100,
    };

    /** Every command, with every number that fits. */
    static List<Ready> all() {
        List<Ready> all = new ArrayList<>();
        addMakers(all);
        addRules(all);
        addStores(all);
        return all;
    }

    private static void addMakers(List<Ready> all) {
        for (int k = -1; k <= 3; k++) {
            all.add(new Ready("type " + k, -1, 4, "", "", "", 1));
        }
        all.add(new Ready("type 4", -1, 4, "", "type 0, type -1", "TT", 1));
        for (int name = 0; name <= 7; name++) {
            all.add(new Ready("var " + name, 0, 7, "", "type -1", "T", 1));
        }
        all.add(new Ready("constant 0", 0, 0, "", "type -1", "T", 1));
        for (int c = 1; c <= 6; c++) {
            String define = Recipes.repeated(c, "type -1, constant 0, theorem 4, pop");
            all.add(new Ready("constant " + c, 0, c, define, "", "", 1));
        }
        String function = Recipes.type(3) + ", var 0, keep 0, pop, type -1, var 0, keep 1, pop";
        all.add(new Ready("app", 0, -1, function, "fetch 0, fetch 1", "tt", 1));
        all.add(new Ready("abs", 0, -1, "type -1, var 0, keep 0, pop", "fetch 0, fetch 0", "vt", 1));
    }

    private static void addRules(List<Ready> all) {
        String variable = "type -1, var 0, keep 0, pop";
        String redex = "type -1, var 0, type -1, var 0, abs, type -1, var 0, app, keep 0, pop";
        for (int rule : new int[] {0, 1, 3}) {
            all.add(new Ready("theorem " + rule, 0, 4, variable, "fetch 0", "t", 1));
        }
        all.add(new Ready("theorem 2", 0, 4, redex, "fetch 0", "t", 1));
        all.add(new Ready("theorem 4", 0, 4, "type -1, constant 0, keep 0, pop", "fetch 0", "t", 1));
        String reflexive = "type -1, var 0, keep 0, theorem 0, keep 1, pop";
        String assumption = ", type -1, var 0, theorem 1, keep 2, pop";
        String functions = Recipes.type(3) + ", var 0, theorem 0, keep 2, pop";
        all.add(new Ready("join 0", 0, 2, reflexive + assumption, "fetch 1, fetch 2", "hh", 1));
        all.add(new Ready("join 1", 0, 2, reflexive + ", " + functions, "fetch 2, fetch 1", "hh", 1));
        all.add(new Ready("join 2", 0, 2, reflexive + assumption, "fetch 2, fetch 1", "hh", 1));
        all.add(new Ready("absThm", 0, -1, reflexive, "fetch 0, fetch 1", "vh", 1));
        all.add(new Ready("inst", 0, -1, reflexive, "fetch 0, fetch 0, fetch 1", "vth", 1));
        for (int k = 0; k <= 3; k++) {
            all.add(new Ready("instType " + k, 0, 3, reflexive, "type -1, fetch 1", "Th", 1));
        }
    }

    private static void addStores(List<Ready> all) {
        String theorem = "type -1, var 0, theorem 1, keep 4, pop";
        for (int key = 0; key <= 5; key++) {
            all.add(new Ready("keep " + key, 0, 5, "", "type -1", "o", 1));
            all.add(new Ready("fetch " + key, key, key, "type -1, keep " + key + ", pop", "", "", 1));
        }
        for (String sample : new String[] {"type 2, keep 4, pop", "type 2, var 2, keep 4, pop", theorem}) {
            all.add(new Ready("keep 2", 0, 5, sample, "fetch 4", "o", 1));
            all.add(new Ready("fetch 4", 4, 4, sample, "", "", 1));
            all.add(new Ready("pop", 0, -1, sample, "fetch 4", "o", 0));
        }
        all.add(new Ready("export", 0, -1, theorem, "fetch 4", "h", 0));
    }

    int taken() {
        return takes.length();
    }

    /** The last of the calls that put what is taken, so many. */
    List<String> pushes(int number) {
        List<String> pushes = Recipes.calls(top);
        return pushes.subList(pushes.size() - number, pushes.size());
    }

    /** Whether a number that does not fit is asked for before the objects are. */
    boolean numberComesFirst() {
        return call.startsWith("type ") || call.startsWith("constant ");
    }

    /** The same call with numbers that are too small or too large. */
    List<String> withWrongNumbers() {
        List<String> wrong = new ArrayList<>();
        if (least > most) {
            return wrong;
        }
        String name = call.split(" ")[0];
        wrong.add(name + " " + (least - 1));
        wrong.add(name + " " + (most + 1));
        for (int number : FAR_AWAY) {
            wrong.add(name + " " + number);
        }
        return wrong;
    }

    /** A machine with so many objects at the bottom of its stack and what these calls put above them. */
    Bench machine(String title, int below, List<String> pushes) {
        Bench bench = new Bench(title + " " + call);
        return bench.does(prepare).does(Recipes.repeated(below, "type 2")).does(String.join(", ", pushes));
    }

    /** A machine that is ready but has done so many commands, with so many other objects on its stack. */
    Bench machine(String title, int below, List<String> pushes, int commands) {
        int needed = Recipes.calls(prepare).size() + below + pushes.size();
        Bench bench = new Bench(title + " " + call);
        bench.does(prepare).does(Recipes.idle(commands - needed)).does(Recipes.repeated(below, "type 2"));
        return bench.does(String.join(", ", pushes)).answers(commands, "count 4");
    }
}
