import java.util.ArrayDeque;
import java.util.Deque;
import java.util.List;
import java.util.Map;
import java.util.TreeMap;

/** Promises 1 to 20 on many made-up runs: every answer of the program is the model's. */
final class ModelTest {
    private static final int RUNS = 8000;
    private static final int CALLS = 512;
    private static final String[] BEGINNINGS = {
        "count 0",
        "type 0,var 0,keep 0,type 0,var 1,keep 1,type 0,type 0,type 4,var 2,keep 2,fetch 0,app,keep 3",
        "type -1,var 0,keep 0,theorem 1,keep 1,type -1,var 1,keep 2,theorem 1,keep 3,type -1,type -1,type 4,keep 5",
        "type 0,constant 0,keep 0,type 0,var 0,keep 1,app,type 0,var 1,keep 2,app,keep 3,theorem 1,keep 4",
        "type 0,var 0,keep 0,type -1,var 0,keep 1,type 0,type -1,type 4,var 3,keep 2,fetch 0,app,keep 3,theorem 1,keep 4",
        "type 1,var 0,keep 0,fetch 0,abs,keep 1,theorem 4,keep 2,type 0,type 1,type 4,keep 3",
        "type -1,type -1,type 4,constant 0,type -1,var 0,type -1,var 0,abs,keep 0,app,fetch 0,app,theorem 4,pop,"
                + "constant 1,keep 0,theorem 1,keep 1,type -1,var 2,keep 2,theorem 1,keep 3,type -1,constant 0,keep 5",
        "type -1,type 0,type 4,keep 5,var 1,keep 0,type -1,var 2,keep 1,app,keep 3,pop,fetch 1,fetch 3,abs,fetch 1,app",
    };
    private static final String[] MUST_HAPPEN = {
        "type 0 0", "type 4 0", "type 4 1", "type 4 4", "type 9 2", "var 0", "var 1", "var 2",
        "constant 0 0", "constant 0 1", "constant 1 0", "constant 9 2", "app 0", "app 1", "app 2", "app 4",
        "abs 0", "abs 1", "abs 4", "theorem 0 0", "theorem 0 4", "theorem 1 0", "theorem 1 2", "theorem 2 0",
        "theorem 2 2", "theorem 2 4", "theorem 3 0", "theorem 3 2", "theorem 3 4", "theorem 4 0", "theorem 4 3",
        "theorem 4 4", "theorem 9 1", "theorem 9 2", "join 0 0", "join 0 1", "join 0 2", "join 0 4", "join 1 0",
        "join 1 2", "join 1 4", "join 2 0", "join 2 4", "join 9 1", "join 9 2", "absThm 0", "absThm 1", "absThm 2",
        "absThm 3", "absThm 4", "inst 0", "inst 1", "inst 2", "inst 4", "instType 0", "instType 1", "instType 2",
        "instType 4", "keep 0", "keep 1", "keep 2", "keep 4", "fetch 0", "fetch 2", "fetch 4", "pop 0", "pop 1",
        "pop 4", "export 0", "export 1", "export 4",
    };

    private static final Map<String, Integer> happened = new TreeMap<>();
    private static final Deque<String> planned = new ArrayDeque<>();
    private static Scripts scripts;

    public static void main(String[] args) {
        for (int run = 1; run <= RUNS; run++) {
            scripts = new Scripts(run * 7919L);
            if (!runOnce(run)) {
                break;
            }
        }
        for (String event : MUST_HAPPEN) {
            Bench.check("the runs came upon: " + event, happened.containsKey(event), true);
        }
        if (args.length > 0) {
            System.out.println(happened);
        }
        Bench.close("ModelTest");
    }

    private static boolean runOnce(int run) {
        SequentMachine machine = new SequentMachine();
        Model model = new Model();
        StringBuilder told = new StringBuilder();
        planned.clear();
        planned.addAll(List.of(BEGINNINGS[pick(BEGINNINGS.length)].split(",")));
        int changes = CALLS - 150 - pick(150);
        for (int i = 0; i < CALLS; i++) {
            String call = i < changes ? nextCall(model) : nextView(model, i == changes);
            int due = model.perform(call);
            int got = Bench.perform(machine, call);
            told.append(call).append(" -> ").append(due).append('\n');
            note(call, due);
            if (got != due) {
                Bench.check("run " + run + ":\n" + told + "the last answer", got, due);
                return false;
            }
        }
        Bench.check("run " + run, true, true);
        return true;
    }

    /** Goes through all that the machine holds, as far as the calls reach. */
    private static String nextView(Model model, boolean begins) {
        if (begins) {
            planned.clear();
            int turn = pick(4);
            for (int bank = 0; bank < 4; bank++) {
                planViews(model, 100 * ((turn + bank) % 4));
            }
        }
        return planned.isEmpty() ? question() : planned.removeFirst();
    }

    private static void planViews(Model model, int bank) {
        for (int place = bank; place < bank + 12; place++) {
            int parts = model.perform("kind " + place) < 0 ? -1 : Math.max(0, model.perform("hypotheses " + place));
            for (int part = 0; part <= parts; part++) {
                int length = model.perform("length " + place + " " + part);
                planned.add("length " + place + " " + part);
                for (int j = 0; j < length; j++) {
                    planned.add("symbol " + place + " " + part + " " + j);
                }
            }
        }
    }

    private static void note(String call, int answer) {
        String[] words = call.split(" ");
        boolean byRule = "type constant theorem join".contains(words[0]);
        int rule = byRule ? Integer.parseInt(words[1]) : 0;
        int most = words[0].equals("join") ? 2 : 4;
        String name = byRule ? words[0] + " " + (rule < -1 || rule > most ? 9 : rule) : words[0];
        happened.merge(name + " " + answer, 1, Integer::sum);
    }

    private static String nextCall(Model model) {
        if (pick(100) < 30 || model.perform("count 4") == 120 && pick(3) > 0) {
            return question();
        }
        if (planned.isEmpty() && pick(4) == 0) {
            planned.addAll(scripts.theorem());
        }
        if (!planned.isEmpty() && pick(200) > 0) {
            return planned.removeFirst();
        }
        return pick(100) < 12 ? wildCommand() : likelyCommand(model);
    }

    private static String likelyCommand(Model model) {
        for (int tries = 0; tries < 12; tries++) {
            String call = command();
            if (model.copy().perform(call) == 0 || pick(20) == 0) {
                return call;
            }
        }
        return command();
    }

    private static String command() {
        switch (pick(24)) {
            case 0: return "type " + (pick(5) - 1);
            case 1: return "type 4";
            case 2: return "var " + pick(3);
            case 3: return "constant " + pick(3);
            case 4: case 5: return "app";
            case 6: case 7: return "abs";
            case 8: case 9: case 10: return "theorem " + pick(5);
            case 11: case 12: case 13: return "join " + pick(3);
            case 14: return "absThm";
            case 15: case 16: return "inst";
            case 17: return "instType " + pick(2);
            case 18: return "keep " + pick(6);
            case 19: case 20: return "fetch " + pick(6);
            case 21: case 22: return "pop";
            default: return pick(4) == 0 ? "export" : "theorem 1";
        }
    }

    private static String wildCommand() {
        String[] names = {"type ", "var ", "constant ", "theorem ", "join ", "instType ", "keep ", "fetch "};
        return names[pick(names.length)] + wildNumber();
    }

    private static int wildNumber() {
        int[] numbers = {Integer.MIN_VALUE, Integer.MAX_VALUE, -100, 100, 20};
        return pick(4) == 0 ? numbers[pick(numbers.length)] : pick(14) - 3;
    }

    private static String question() {
        int place = pick(8) == 0 ? wildNumber() : 100 * (pick(3) == 0 ? pick(4) : 0) + pick(6) / 2;
        int part = pick(10) == 0 ? wildNumber() : pick(3) == 0 ? pick(5) : 0;
        switch (pick(9)) {
            case 0: return "count " + (pick(7) - 1);
            case 1: return "kind " + place;
            case 2: return "hypotheses " + place;
            case 3: return "length " + place + " " + part;
            default: return "symbol " + place + " " + part + " " + (pick(15) == 0 ? wildNumber() : pick(41));
        }
    }

    private static int pick(int bound) {
        return scripts.pick(bound);
    }
}
