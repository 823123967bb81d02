import java.util.ArrayList;
import java.util.List;

/** Drives one machine by short texts, such as "type -1, var 0", and prints every answer that is not as due. */
final class Bench {
    private static final int CALLS_OF_ONE_OBJECT = 512;
    private static int checks = 0;
    private static int wrong = 0;

    private final String title;
    private final SequentMachine machine = new SequentMachine();
    private final List<String> history = new ArrayList<>();
    private SequentMachine viewer;
    private int viewerCalls;
    private int replayed;

    Bench(String title) {
        this.title = title;
    }

    /** Ends the test: with exit code 1 if an answer was not as due. */
    static void close(String test) {
        System.out.println(test + ": " + checks + " checks, " + wrong + " wrong");
        if (wrong > 0) {
            System.exit(1);
        }
    }

    static void check(String what, Object got, Object due) {
        checks++;
        if (!got.equals(due)) {
            wrong++;
            System.out.println(what + " was " + got + ", due is " + due);
        }
    }

    /** All these commands are done. */
    Bench does(String calls) {
        for (String call : calls.split(",")) {
            answers(0, call.trim());
        }
        return this;
    }

    Bench answers(int due, String call) {
        history.add(call);
        check(title + ": " + call, perform(machine, call), due);
        return this;
    }

    /** The command is refused with this answer, and nothing changes. */
    Bench refuses(int due, String call) {
        String before = state();
        answers(due, call);
        check(title + ": the state after " + call, state(), before);
        return this;
    }

    /** Part i at a place has just these symbols. */
    Bench shows(int place, int i, String symbols) {
        check(title + ": part " + i + " at " + place, part(place, i), symbols);
        return this;
    }

    /** The theorem on top has this conclusion and these hypotheses in this order. */
    Bench showsTheorem(String conclusion, String... hypotheses) {
        answers(2, "kind 0");
        answers(hypotheses.length, "hypotheses 0");
        shows(0, 0, conclusion);
        for (int i = 0; i < hypotheses.length; i++) {
            shows(0, i + 1, hypotheses[i]);
        }
        return this;
    }

    /** All that can be seen of the machine. */
    String state() {
        StringBuilder text = new StringBuilder();
        for (int list = 0; list < 5; list++) {
            text.append(ask("count " + list)).append(' ');
        }
        for (int bank = 0; bank < 400; bank += 100) {
            for (int place = bank; place < bank + 13; place++) {
                text.append(objectAt(place));
            }
        }
        return text.toString();
    }

    private String objectAt(int place) {
        int kind = ask("kind " + place);
        if (kind < 0) {
            return "";
        }
        int hypotheses = ask("hypotheses " + place);
        StringBuilder text = new StringBuilder("\n  " + place + ": kind " + kind + ", hypotheses " + hypotheses);
        for (int i = 0; i <= Math.max(0, hypotheses); i++) {
            text.append(", part ").append(i).append(' ').append(part(place, i));
        }
        return text.toString();
    }

    private String part(int place, int i) {
        int length = ask("length " + place + " " + i);
        StringBuilder text = new StringBuilder();
        for (int j = 0; j < length; j++) {
            text.append(j == 0 ? "" : " ").append(ask("symbol " + place + " " + i + " " + j));
        }
        return text.toString();
    }

    /** Looks at a second object with the same history, so that none is used for too many calls. */
    private int ask(String query) {
        if (viewer == null || viewerCalls + history.size() - replayed >= CALLS_OF_ONE_OBJECT) {
            viewer = new SequentMachine();
            viewerCalls = 0;
            replayed = 0;
        }
        for (; replayed < history.size(); replayed++) {
            perform(viewer, history.get(replayed));
            viewerCalls++;
        }
        viewerCalls++;
        return perform(viewer, query);
    }

    static int perform(SequentMachine machine, String call) {
        String[] words = call.split(" ");
        switch (words[0]) {
            case "type": return machine.type(number(words, 1));
            case "var": return machine.var(number(words, 1));
            case "constant": return machine.constant(number(words, 1));
            case "app": return machine.app();
            case "abs": return machine.abs();
            case "theorem": return machine.theorem(number(words, 1));
            case "join": return machine.join(number(words, 1));
            case "absThm": return machine.absThm();
            case "inst": return machine.inst();
            case "instType": return machine.instType(number(words, 1));
            case "keep": return machine.keep(number(words, 1));
            case "fetch": return machine.fetch(number(words, 1));
            case "pop": return machine.pop();
            case "export": return machine.export();
            case "count": return machine.count(number(words, 1));
            case "kind": return machine.kind(number(words, 1));
            case "hypotheses": return machine.hypotheses(number(words, 1));
            case "length": return machine.length(number(words, 1), number(words, 2));
            case "symbol": return machine.symbol(number(words, 1), number(words, 2), number(words, 3));
            default: throw new IllegalArgumentException(call);
        }
    }

    private static int number(String[] words, int index) {
        return Integer.parseInt(words[index]);
    }
}
