import java.util.ArrayList;
import java.util.Collections;
import java.util.List;

/**
 * Texts of calls that make objects of a wanted size. Every written form has an odd number of symbols, so a
 * type of 15 and a term of 39 are the longest that have room, and those of 17 and 41 the shortest that have none.
 */
final class Recipes {
    static final int MOST_COMMANDS = 120;
    static final int MOST_OBJECTS = 12;

    private Recipes() {}

    static List<String> calls(String text) {
        List<String> calls = new ArrayList<>();
        for (String call : text.split(",")) {
            if (!call.isBlank()) {
                calls.add(call.trim());
            }
        }
        return calls;
    }

    static String repeated(int times, String calls) {
        return String.join(", ", Collections.nCopies(times, calls));
    }

    /** A type with an odd number of symbols. */
    static String type(int size) {
        return size == 1 ? "type -1" : "type -1, " + type(size - 2) + ", type 4";
    }

    /** A term of type BOOL with 3, 9, 11 or, from 15 on, any odd number of symbols. */
    static String formula(int size) {
        if (size == 3) {
            return "type -1, var 5";
        }
        if ((size - 3) % 6 == 0) {
            return type(3) + ", var 7, " + formula(size - 6) + ", app";
        }
        return "type -1, constant 0, type -1, var 6, app, " + formula(size - 8) + ", app";
    }

    /** The equation of two terms of type BOOL. */
    static String equation(String left, String right) {
        return "type -1, constant 0, " + left + ", app, " + right + ", app";
    }

    /** A term without free variables, from BOOL to BOOL, with 3, 7, 9 or, from 11 on, any odd number of symbols. */
    static String closed(int size) {
        return "type -1, var 5, " + bodyOfClosed(size - 2) + ", abs";
    }

    private static String bodyOfClosed(int size) {
        if (size == 1) {
            return "type -1, var 5";
        }
        if ((size - 1) % 6 == 0) {
            return equation("type -1, var 5", bodyOfClosed(size - 6));
        }
        return "type -1, var 5, type -1, var 5, abs, " + bodyOfClosed(size - 4) + ", app";
    }

    static String truth(int name) {
        return "type -1, var " + name;
    }

    /** The theorem with the variables from the first on, so many, as hypotheses; its conclusion is made of them. */
    static String assumed(int first, int number) {
        String last = truth(first + number - 1) + ", theorem 1";
        return number == 1 ? last : assumed(first, number - 1) + ", " + last + ", join 2";
    }

    /** So many commands, from 2 on or 0, that leave the stack as it is; there must be room for one object more. */
    static String idle(int commands) {
        if (commands % 2 == 0) {
            return repeated(commands / 2, "type 0, pop");
        }
        return "type 0, var 0, pop, " + repeated((commands - 3) / 2, "type 0, pop");
    }
}
