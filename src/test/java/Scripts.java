import java.util.ArrayList;
import java.util.List;

/** Makes up commands that build well-typed terms, and theorems out of them. */
final class Scripts {
    private static final String[] TYPES = {
        "type -1", "type 0", "type 1", "type -1,type -1,type 4", "type 0,type 0,type 4", "type 0,type -1,type 4",
    };
    private static final int[] RESULTS = {-1, -1, -1, 0, 1, 0};
    private static final int[] ARGUMENTS = {-1, -1, -1, 0, 1, 1};

    private long seed;

    Scripts(long seed) {
        this.seed = seed;
    }

    int pick(int bound) {
        seed = seed * 6364136223846793005L + 1442695040888963407L;
        return (int) ((seed >>> 33) % bound);
    }

    List<String> theorem() {
        List<String> calls = new ArrayList<>();
        for (String call : theorem(2).split(",")) {
            calls.add(call);
        }
        return calls;
    }

    private String theorem(int depth) {
        switch (depth == 0 ? pick(5) : pick(14)) {
            case 0: case 1: return term(0, 2) + ",theorem 1";
            case 2: return term(pick(TYPES.length), 2) + ",theorem 0";
            case 3: return redex(pick(TYPES.length), 2) + ",theorem 2";
            case 4: return term(0, 2) + ",theorem " + (pick(2) == 0 ? "3" : "1");
            case 5: case 6: return theorem(depth - 1) + "," + theorem(depth - 1) + ",join 2";
            case 7: return conversion(depth);
            case 8: return congruence();
            case 9: return variable(pick(TYPES.length)) + "," + theorem(depth - 1) + ",absThm";
            case 10: case 11: return instance(depth);
            case 12: return TYPES[pick(TYPES.length)] + "," + theorem(depth - 1) + ",instType " + pick(2);
            default: return closed() + ",theorem 4,keep 5,constant 1,pop";
        }
    }

    private String instance(int depth) {
        int type = pick(TYPES.length);
        return variable(type) + "," + term(type, 1) + "," + theorem(depth - 1) + ",inst";
    }

    private String conversion(int depth) {
        String first = term(0, 1);
        String kept = first + ",keep 0,pop," + term(0, 1) + ",keep 1,pop,type -1,constant 0,fetch 0,app,fetch 1,app";
        return kept + ",theorem " + (pick(2) == 0 ? "1" : "3") + ",fetch 0,theorem 1,join 0";
    }

    private String congruence() {
        int function = 3 + pick(3);
        return term(function, 1) + ",theorem 0," + term(ARGUMENTS[function], 1) + ",theorem 0,join 1";
    }

    private String closed() {
        String type = TYPES[pick(TYPES.length)];
        String other = TYPES[pick(TYPES.length)];
        switch (pick(4)) {
            case 0: return type + ",constant 0";
            case 1: return type + ",var 1," + type + ",var 1,abs";
            case 2: return type + ",var 1," + other + ",var 1," + type + ",var 1,abs,abs";
            default: return type + ",var 0," + term(pick(TYPES.length), 1) + ",abs";
        }
    }

    private String variable(int type) {
        return TYPES[type] + ",var " + pick(2);
    }

    private String term(int type, int depth) {
        int way = depth == 0 ? 0 : pick(5);
        if (way == 1) {
            return redex(type, depth);
        }
        if (way == 2 || way == 4 && type < 3) {
            return applied(type, depth);
        }
        if (way >= 3 && type >= 3) {
            return variable(ARGUMENTS[type]) + "," + term(RESULTS[type], depth - 1) + ",abs";
        }
        if (way == 3 && type == 0) {
            int side = pick(TYPES.length);
            return TYPES[side] + ",constant 0," + term(side, depth - 1) + ",app," + term(side, depth - 1) + ",app";
        }
        return variable(type);
    }

    private String applied(int type, int depth) {
        int function = type == 0 ? 3 + 2 * pick(2) : 4;
        if (type > 1) {
            return variable(type);
        }
        return term(function, depth - 1) + "," + term(ARGUMENTS[function], depth - 1) + ",app";
    }

    private String redex(int type, int depth) {
        int argument = pick(TYPES.length);
        String function = variable(argument) + "," + term(type, depth - 1) + ",abs,";
        return function + term(argument, depth - 1) + ",app";
    }
}
