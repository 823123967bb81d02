/** The answer 4 of every command: what has just room is done, what has none is refused and changes nothing. */
final class RoomTest {
    private static final int MOST_COMMANDS = 120;

    public static void main(String[] args) {
        commands();
        lesserAnswersWithoutCommands();
        fullStack();
        longTypes();
        longApplications();
        longAbstractions();
        longReflexivities();
        longReductions();
        longDefinitions();
        longJoins();
        longAbstractionsOfTheorems();
        longInstances();
        longTypeInstances();
        manyHypotheses();
        fullLists();
        manyConstants();
        Bench.close("RoomTest");
    }

    /** A type with an odd number of symbols. */
    private static String type(int size) {
        return size == 1 ? "type -1" : "type -1, " + type(size - 2) + ", type 4";
    }

    /** A term of type BOOL with 3, 9, 11 or, from 15 on, any odd number of symbols. */
    private static String formula(int size) {
        if (size == 3) {
            return "type -1, var 5";
        }
        if ((size - 3) % 6 == 0) {
            return type(3) + ", var 7, " + formula(size - 6) + ", app";
        }
        return "type -1, constant 0, type -1, var 6, app, " + formula(size - 8) + ", app";
    }

    /** A machine that has done this and then so much more that just so many commands are done. */
    private static Bench after(String calls, int commands) {
        Bench bench = new Bench("after " + calls + " and " + commands + " commands").does(calls);
        int done = calls.split(",").length;
        if ((commands - done) % 2 != 0) {
            bench.does("keep 5");
            done++;
        }
        for (; done < commands; done += 2) {
            bench.does("pop, fetch 4");
        }
        return bench;
    }

    private static void commands() {
        String formula = "type -1, var 0, keep 4";
        String theorem = "type -1, var 0, theorem 1, keep 4";
        String reflexive = "type -1, var 0, theorem 0, keep 4";
        String[][] cases = {
            {"type -1, keep 4", "type -1"}, {"type -1, keep 4", "type 3"}, {"type 0, type -1, keep 4", "type 4"},
            {"type -1, keep 4", "var 0"}, {"type -1, keep 4", "constant 0"},
            {"type -1, constant 0, theorem 4, keep 4", "constant 1"},
            {type(3) + ", var 0, type -1, var 0, keep 4", "app"}, {"type -1, var 0, type -1, var 0, keep 4", "abs"},
            {formula, "theorem 0"}, {formula, "theorem 1"}, {formula, "theorem 3"}, {"type -1, constant 0, keep 4", "theorem 4"},
            {"type -1, var 0, type -1, var 0, abs, type -1, var 0, app, keep 4", "theorem 2"},
            {"type -1, var 0, theorem 0, type -1, var 0, theorem 1, keep 4", "join 0"},
            {type(3) + ", var 0, theorem 0, type -1, var 0, theorem 0, keep 4", "join 1"},
            {"type -1, var 0, theorem 1, type -1, var 0, theorem 1, keep 4", "join 2"},
            {"type 0, var 0, " + reflexive, "absThm"}, {"type 0, var 0, type 0, var 1, " + reflexive, "inst"},
            {"type 0, " + theorem, "instType 0"}, {formula, "keep 0"}, {formula, "fetch 4"}, {formula, "pop"},
            {theorem, "export"},
        };
        for (String[] row : cases) {
            after(row[0], MOST_COMMANDS - 1).answers(0, row[1]).answers(MOST_COMMANDS, "count 4");
            after(row[0], MOST_COMMANDS).refuses(4, row[1]).answers(MOST_COMMANDS, "count 4");
        }
    }

    private static void lesserAnswersWithoutCommands() {
        Bench bench = after("type -1, var 0, keep 4", MOST_COMMANDS);
        bench.refuses(2, "type 5").refuses(1, "type 4").refuses(1, "var 0").refuses(2, "constant 1").refuses(1, "constant 0");
        bench.refuses(1, "app").refuses(1, "abs").refuses(2, "theorem 2").refuses(3, "theorem 4").refuses(2, "theorem 9");
        bench.refuses(1, "join 0").refuses(1, "absThm").refuses(1, "inst").refuses(1, "instType 0").refuses(2, "keep 6");
        bench.refuses(2, "fetch 0").refuses(1, "export").refuses(4, "pop");
    }

    private static void fullStack() {
        Bench bench = new Bench("a full stack");
        bench.does("type -1, constant 0, theorem 4, pop, type 1, keep 0, pop");
        bench.does("type 0, type 0, type 0, type 0, type 0, type 0, type 0, type 0, type 0, type 0, type 0");
        bench.does("constant 1").answers(12, "count 0").refuses(4, "constant 1").refuses(4, "fetch 0");
        bench.refuses(4, "type -1").refuses(4, "type 2").refuses(2, "type 5").refuses(2, "fetch 1").refuses(2, "constant 2");
        bench.does("theorem 0, keep 1, keep 1").answers(12, "count 0").answers(2, "kind 0");
        bench.does("instType 1").answers(11, "count 0").does("fetch 0").answers(12, "count 0").refuses(4, "fetch 0");
        bench.does("var 0").answers(12, "count 0").does("pop, pop, type 4").answers(9, "count 0");
    }

    private static void longTypes() {
        Bench bench = new Bench("long types");
        bench.does(type(15)).answers(15, "length 0 0").does("type -1").refuses(4, "type 4");
        bench.does("pop, type -1").refuses(4, "type 4").does("pop, pop, " + type(7) + ", " + type(7) + ", type 4");
        bench.answers(15, "length 0 0").does("pop, " + type(7) + ", " + type(9)).refuses(4, "type 4");
    }

    private static void longApplications() {
        Bench bench = new Bench("long applications").does(type(3) + ", var 0, " + formula(33) + ", app");
        bench.answers(39, "length 0 0");
        bench = new Bench("applications that are too long").does(type(3) + ", var 0, " + formula(35)).refuses(4, "app");
        bench.does("pop, " + formula(39)).refuses(4, "app");
        bench.does("keep 0, pop, pop, type -1, constant 0, fetch 0").refuses(4, "app");
    }

    private static void longAbstractions() {
        Bench bench = new Bench("long abstractions").does(formula(27) + ", keep 0, pop");
        bench.does(type(11) + ", var 0, fetch 0, abs").answers(39, "length 0 0");
        bench.does(type(13) + ", var 0, fetch 0").refuses(4, "abs");
        bench = new Bench("an abstraction that makes a long term no longer").does("type -1, var 5, " + formula(39) + ", abs");
        bench.answers(39, "length 0 0").does("keep 0, type 0, var 0, fetch 0").refuses(4, "abs");
    }

    private static void longReflexivities() {
        new Bench("long REFL").does(formula(17) + ", theorem 0").answers(39, "length 0 0");
        new Bench("REFL that is too long").does(type(11) + ", var 0").refuses(4, "theorem 0");
        new Bench("REFL that is far too long").does(formula(39)).refuses(4, "theorem 0").does("theorem 1");
    }

    private static void longReductions() {
        String identity = "type -1, var 0, type -1, var 0, abs, ";
        new Bench("long BETA").does(identity + formula(15) + ", app, theorem 2").answers(39, "length 0 0");
        new Bench("BETA that is too long").does(identity + formula(17) + ", app").refuses(4, "theorem 2");
        Bench bench = new Bench("BETA by one symbol too long").does(type(13) + ", var 0, type -1, var 0, abs");
        bench.does(type(13) + ", var 0, app").refuses(4, "theorem 2");
        bench = new Bench("BETA with many copies").does("type -1, var 0, keep 0, type -1, constant 0, keep 1, pop");
        bench.does("fetch 1, fetch 1, fetch 0, app, fetch 0, app, app, fetch 0, app, abs, " + formula(23) + ", app");
        bench.answers(39, "length 0 0").refuses(4, "theorem 2");
    }

    private static void longDefinitions() {
        Bench bench = new Bench("long DEFINE").does(type(5) + ", constant 0, theorem 4").answers(39, "length 0 0");
        bench.does(type(7) + ", constant 0").refuses(4, "theorem 4").answers(1, "count 3").refuses(2, "constant 2");
        bench.does("type 0, var 0").refuses(3, "theorem 4");
    }

    private static void longJoins() {
        Bench bench = new Bench("long DEDUCT").does(formula(17) + ", theorem 1, keep 0, keep 1, pop, fetch 0");
        bench.does("fetch 0, join 2").answers(39, "length 0 0");
        bench = new Bench("DEDUCT that is too long").does(formula(17) + ", theorem 1, " + formula(19) + ", theorem 1");
        bench.refuses(4, "join 2").does("pop, pop");
        bench = new Bench("long APP").does(type(3) + ", var 0, theorem 0, keep 0, " + formula(11) + ", theorem 0, join 1");
        bench.answers(39, "length 0 0");
        bench = new Bench("APP that is too long").does(type(3) + ", var 0, theorem 0, " + formula(15) + ", theorem 0");
        bench.refuses(4, "join 1");
        bench = new Bench("a long conclusion by EQMP").does("type -1, constant 0, type -1, var 0, keep 0, app");
        bench.does(formula(31) + ", app, theorem 1, fetch 0, theorem 1, join 0").answers(31, "length 0 0");
        bench.answers(39, "length 0 2");
    }

    private static void longAbstractionsOfTheorems() {
        Bench bench = new Bench("long absThm").does(type(3) + ", var 0, " + formula(11) + ", theorem 0, absThm");
        bench.answers(39, "length 0 0");
        bench = new Bench("absThm that is too long").does(type(5) + ", var 0, " + formula(9) + ", theorem 0");
        bench.refuses(4, "absThm");
    }

    private static void longInstances() {
        String twoHypotheses = "type -1, constant 0, type -1, var 0, keep 0, app, type -1, var 1, app, theorem 1, fetch 0,"
                + " theorem 1, join 0";
        Bench bench = new Bench("inst with a long hypothesis");
        bench.does("type -1, var 0, " + formula(31) + ", " + twoHypotheses + ", inst");
        bench.answers(3, "length 0 0").answers(31, "length 0 1").answers(39, "length 0 2");
        bench = new Bench("inst with a hypothesis that is too long");
        bench.does("type -1, var 0, " + formula(33) + ", " + twoHypotheses).refuses(4, "inst");
        bench = new Bench("inst with a conclusion that is far too long").does("type -1, var 5, " + formula(39));
        bench.does(formula(17) + ", theorem 0").refuses(4, "inst");
    }

    private static void longTypeInstances() {
        Bench bench = new Bench("long instType").does("type 0, var 0, theorem 0, keep 0, pop, " + type(9));
        bench.does("fetch 0, instType 0").answers(35, "length 0 0");
        bench.does(type(11) + ", fetch 0").refuses(4, "instType 0").does("instType 1").answers(11, "length 0 0");
        bench.does(type(15) + ", fetch 0").refuses(4, "instType 0").refuses(2, "instType 4");
        bench = new Bench("instType with a hypothesis that is too long").does("type 0, constant 0, type 0, var 0, keep 0, app");
        bench.does("fetch 0, app, keep 1, type -1, constant 0, fetch 1, app, type -1, var 2, app, theorem 1, fetch 1");
        bench.does("theorem 3, join 0, keep 2").showsTheorem("10 2 1", "12 12 11 0 1 12 12 11 0 2 10 0 2 10 0 2 10 2 1");
        bench.does(type(7) + ", fetch 2, instType 0").answers(37, "length 0 1");
        bench.does(type(9) + ", fetch 2").refuses(4, "instType 0");
    }

    private static void manyHypotheses() {
        String two = "type -1, var 0, theorem 1, keep 0, type -1, var 1, theorem 1, join 2, keep 1";
        Bench bench = new Bench("many hypotheses with DEDUCT").does(two + ", type -1, var 2, theorem 1, join 2");
        bench.answers(3, "hypotheses 0").does("keep 2, type -1, var 3, theorem 1").refuses(4, "join 2");
        bench.does("pop, fetch 0, join 2").answers(3, "hypotheses 0");
        bench.does(type(3) + ", constant 0, " + type(3) + ", var 0, app, " + type(3) + ", var 1, app, theorem 1, keep 3");
        bench.does("fetch 1, join 1").answers(3, "hypotheses 0").answers(23, "length 0 0");
        bench.does("fetch 3, fetch 2").refuses(4, "join 1");
        bench = new Bench("many hypotheses with EQMP").does(two + ", type -1, constant 0, type -1, var 2, keep 2, app");
        bench.does("type -1, var 0, app, theorem 1, keep 3, fetch 2, theorem 1, join 0").answers(2, "hypotheses 0");
        bench.refuses(4, "join 0").does("pop, fetch 3, fetch 2, theorem 3, join 0").answers(1, "hypotheses 0");
        bench.does("join 0").showsTheorem("10 1 1", "10 0 1", "10 1 1", "12 12 11 0 1 10 2 1 10 0 1");
    }

    private static void fullLists() {
        Bench bench = new Bench("full lists").does("type -1, var 0, keep 0, theorem 1, keep 1, pop");
        for (int i = 0; i < 5; i++) {
            bench.does("fetch 0, theorem 3, export");
        }
        bench.answers(5, "count 1").answers(5, "count 2").answers(2, "kind 204").answers(2, "kind 304");
        bench.does("fetch 0").refuses(4, "theorem 3").does("fetch 1").refuses(4, "export");
        bench.answers(-1, "kind 205").answers(-1, "kind 305");
        bench.does("type 0, var 0").refuses(2, "theorem 3").refuses(1, "export");
    }

    private static void manyConstants() {
        Bench bench = new Bench("many constants").does("type 0, constant 0, keep 0, pop");
        for (int i = 1; i <= 6; i++) {
            bench.does("fetch 0, theorem 4, pop, constant " + i + ", pop").answers(i, "count 3");
        }
        bench.does("fetch 0").refuses(4, "theorem 4").refuses(2, "constant 7").does("constant 6").shows(0, 0, "11 6 0 2 0 2 1");
        bench.does("type 0, var 0").refuses(3, "theorem 4");
    }
}
