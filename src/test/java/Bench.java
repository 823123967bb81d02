import java.util.ArrayList;
import java.util.List;

/** Drives one machine by short texts, such as "type -1, var 0", and prints every answer that is not as due. */
final class Bench {
    private static final int CALLS_OF_ONE_OBJECT = 512;
    private static final String QUESTIONS = "count kind hypotheses length symbol";
    private static int checks = 0;
    private static int wrong = 0;

    private final String title;
    private final SequentMachine machine = new SequentMachine();
    private final Viewer all = new Viewer();
    private final Viewer done = new Viewer();

    Bench(String title) {
        this.title = title;
    }

    /** Ends the test: with exit code 1 if an answer was not as due. */
    static void close(String test) {
        System.out.println(test + ": " + checks + " checks, " + wrong + " wrong");
        if (wrong > 0) {
            System.exit(1);
        }
    }

    static void check(String what, Object got, Object due) {
        checks++;
        if (!got.equals(due)) {
            wrong++;
            System.out.println(what + " was " + got + ", due is " + due);
        }
    }

    /** All these commands are done. */
    Bench does(String calls) {
        for (String call : Recipes.calls(calls)) {
            answers(0, call);
        }
        return this;
    }

    Bench answers(int due, String call) {
        int got = perform(machine, call);
        check(title + ": " + call, got, due);
        all.add(call);
        if (got == 0 && !QUESTIONS.contains(call.split(" ")[0])) {
            done.add(call);
        }
        return this;
    }

    /**
     * The command is refused with this answer, and nothing changes: all looks as before, and as on an object
     * that has met neither this call nor any other that was refused.
     */
    Bench refuses(int due, String call) {
        String before = state(all);
        answers(due, call);
        check(title + ": the state after " + call, state(all), before);
        check(title + ": the state without what was refused up to " + call, state(done), before);
        return this;
    }

    Bench refusesAll(int due, String calls) {
        for (String call : Recipes.calls(calls)) {
            refuses(due, call);
        }
        return this;
    }

    /** Part i at a place has just these symbols. */
    Bench shows(int place, int i, String symbols) {
        check(title + ": part " + i + " at " + place, part(all, place, i), symbols);
        return this;
    }

    /** The theorem on top has this conclusion and these hypotheses in this order. */
    Bench showsTheorem(String conclusion, String... hypotheses) {
        answers(2, "kind 0");
        answers(hypotheses.length, "hypotheses 0");
        shows(0, 0, conclusion);
        for (int i = 0; i < hypotheses.length; i++) {
            shows(0, i + 1, hypotheses[i]);
        }
        return this;
    }

    /** All that can be seen of a machine. */
    private static String state(Viewer viewer) {
        StringBuilder text = new StringBuilder();
        for (int list = 0; list < 5; list++) {
            text.append(viewer.ask("count " + list)).append(' ');
        }
        for (int bank = 0; bank < 400; bank += 100) {
            for (int place = bank; place < bank + 13; place++) {
                text.append(objectAt(viewer, place));
            }
        }
        return text.toString();
    }

    private static String objectAt(Viewer viewer, int place) {
        int kind = viewer.ask("kind " + place);
        if (kind < 0) {
            return "";
        }
        int hypotheses = viewer.ask("hypotheses " + place);
        StringBuilder text = new StringBuilder("\n  " + place + ": kind " + kind + ", hypotheses " + hypotheses);
        for (int i = 0; i <= Math.max(0, hypotheses); i++) {
            text.append(", part ").append(i).append(' ').append(part(viewer, place, i));
        }
        return text.toString();
    }

    private static String part(Viewer viewer, int place, int i) {
        int length = viewer.ask("length " + place + " " + i);
        StringBuilder text = new StringBuilder();
        for (int j = 0; j < length; j++) {
            text.append(j == 0 ? "" : " ").append(viewer.ask("symbol " + place + " " + i + " " + j));
        }
        return text.toString();
    }

    static int perform(SequentMachine machine, String call) {
        String[] words = call.split(" ");
        switch (words[0]) {
            case "type": return machine.type(number(words, 1));
            case "var": return machine.var(number(words, 1));
            case "constant": return machine.constant(number(words, 1));
            case "app": return machine.app();
            case "abs": return machine.abs();
            case "theorem": return machine.theorem(number(words, 1));
            case "join": return machine.join(number(words, 1));
            case "absThm": return machine.absThm();
            case "inst": return machine.inst();
            case "instType": return machine.instType(number(words, 1));
            case "keep": return machine.keep(number(words, 1));
            case "fetch": return machine.fetch(number(words, 1));
            case "pop": return machine.pop();
            case "export": return machine.export();
            case "count": return machine.count(number(words, 1));
            case "kind": return machine.kind(number(words, 1));
            case "hypotheses": return machine.hypotheses(number(words, 1));
            case "length": return machine.length(number(words, 1), number(words, 2));
            case "symbol": return machine.symbol(number(words, 1), number(words, 2), number(words, 3));
            default: throw new IllegalArgumentException(call);
        }
    }

    private static int number(String[] words, int index) {
        return Integer.parseInt(words[index]);
    }

    /** Looks at objects with a given history, a new one each time that the last was used for too many calls. */
    private static final class Viewer {
        private final List<String> history = new ArrayList<>();
        private SequentMachine machine;
        private int calls;
        private int replayed;

        void add(String call) {
            history.add(call);
            if (history.size() >= CALLS_OF_ONE_OBJECT) {
                throw new IllegalStateException("one object is used for too many calls");
            }
        }

        int ask(String question) {
            if (machine == null || calls + history.size() - replayed >= CALLS_OF_ONE_OBJECT) {
                machine = new SequentMachine();
                calls = 0;
                replayed = 0;
            }
            for (; replayed < history.size(); replayed++) {
                perform(machine, history.get(replayed));
                calls++;
            }
            calls++;
            return perform(machine, question);
        }
    }
}
