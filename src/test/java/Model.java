import java.util.ArrayList;
import java.util.Arrays;
import java.util.HashSet;
import java.util.List;
import java.util.Set;
import java.util.TreeMap;

/**
 * The document told a second time, in another way: terms are trees whose bound variables have names, and
 * are renamed where a replacement takes that. ModelTest holds the program's answers against this one's.
 */
final class Model {
    record Type(int symbol, Type from, Type to) {}

    interface Term {}

    record Variable(int name, Type type) implements Term {}

    /** Constant 0 bears the type that it is EQUAL at. */
    record Constant(int number, Type type) implements Term {}

    record Application(Term function, Term argument) implements Term {}

    record Abstraction(Variable variable, Term body) implements Term {}

    record Theorem(List<Term> hypotheses, Term conclusion) {}

    private static final Type BOOL = new Type(1, null, null);
    private static int fresh = 1000;

    private final List<Object> stack = new ArrayList<>();
    private final Object[] dictionary = new Object[6];
    private final List<Theorem> assumed = new ArrayList<>();
    private final List<Theorem> exported = new ArrayList<>();
    private final List<Type> constants = new ArrayList<>();
    private int commands = 0;

    Model copy() {
        Model copy = new Model();
        copy.stack.addAll(stack);
        System.arraycopy(dictionary, 0, copy.dictionary, 0, dictionary.length);
        copy.assumed.addAll(assumed);
        copy.exported.addAll(exported);
        copy.constants.addAll(constants);
        copy.commands = commands;
        return copy;
    }

    int perform(String call) {
        String[] words = call.split(" ");
        int[] n = new int[3];
        for (int i = 1; i < words.length; i++) {
            n[i - 1] = Integer.parseInt(words[i]);
        }
        switch (words[0]) {
            case "type": return type(n[0]);
            case "var": return var(n[0]);
            case "constant": return constant(n[0]);
            case "app": return app();
            case "abs": return abs();
            case "theorem": return theorem(n[0]);
            case "join": return join(n[0]);
            case "absThm": return absThm();
            case "inst": return inst();
            case "instType": return instType(n[0]);
            case "keep": return keep(n[0]);
            case "fetch": return fetch(n[0]);
            case "pop": return top(0) == null ? 1 : commit(1);
            case "export": return export();
            default: return look(words[0], n);
        }
    }

    private int look(String question, int[] n) {
        Object object = place(n[0]);
        List<Integer> part = part(object, n[1]);
        switch (question) {
            case "count": return count(n[0]);
            case "kind": return object == null ? -1 : kind(object);
            case "hypotheses": return object instanceof Theorem t ? t.hypotheses.size() : -1;
            case "length": return part == null ? -1 : part.size();
            case "symbol": return part == null || n[2] < 0 || n[2] >= part.size() ? -1 : part.get(n[2]);
            default: throw new IllegalArgumentException(question);
        }
    }

    private int type(int k) {
        if (k < -1 || k > 4) return 2;
        if (k == -1) return commit(0, BOOL);
        if (k < 4) return commit(0, new Type(2 + k, null, null));
        if (!(top(1) instanceof Type a) || !(top(0) instanceof Type b)) return 1;
        return commit(2, function(a, b));
    }

    private int var(int name) {
        if (!(top(0) instanceof Type a)) return 1;
        return name < 0 || name > 7 ? 2 : commit(1, new Variable(name, a));
    }

    private int constant(int c) {
        if (c < 0 || c > constants.size()) return 2;
        if (c > 0) return commit(0, new Constant(c, constants.get(c - 1)));
        return top(0) instanceof Type a ? commit(1, new Constant(0, a)) : 1;
    }

    private int app() {
        if (!(top(1) instanceof Term f) || !(top(0) instanceof Term x)) return 1;
        return typeOf(f).symbol != 0 || !typeOf(f).from.equals(typeOf(x)) ? 2 : commit(2, new Application(f, x));
    }

    private int abs() {
        if (!(top(1) instanceof Variable v) || !(top(0) instanceof Term t)) return 1;
        return commit(2, new Abstraction(v, t));
    }

    private int theorem(int rule) {
        if (!(top(0) instanceof Term t)) return 1;
        boolean formula = typeOf(t).equals(BOOL);
        switch (rule) {
            case 0: return commit(1, new Theorem(List.of(), equation(t, t)));
            case 1: return formula ? commit(1, new Theorem(List.of(t), t)) : 2;
            case 2:
                if (!(t instanceof Application a) || !(a.function instanceof Abstraction l)) return 2;
                return commit(1, new Theorem(List.of(), equation(t, replace(l.body, l.variable, a.argument))));
            case 3:
                if (!formula) return 2;
                if (assumed.size() == 5) return 4;
                Theorem axiom = new Theorem(List.of(), t);
                int done = commit(1, axiom);
                if (done == 0) assumed.add(axiom);
                return done;
            case 4: return define(t);
            default: return 2;
        }
    }

    private int define(Term t) {
        Type type = typeOf(t);
        if (!free(t).isEmpty() || !typeVariables(type).containsAll(typeVariables(t))) return 3;
        if (constants.size() == 6) return 4;
        Term c = new Constant(constants.size() + 1, type);
        int done = commit(1, new Theorem(List.of(), equation(c, t)));
        if (done == 0) constants.add(type);
        return done;
    }

    private int join(int rule) {
        if (!(top(1) instanceof Theorem g) || !(top(0) instanceof Theorem d)) return 1;
        Term[] first = sides(g.conclusion);
        Term[] second = sides(d.conclusion);
        List<Term> both = new ArrayList<>(g.hypotheses);
        both.addAll(d.hypotheses);
        switch (rule) {
            case 0:
                if (first == null || !same(first[0], d.conclusion)) return 2;
                return commit(2, new Theorem(ordered(both), first[1]));
            case 1:
                if (first == null || second == null) return 2;
                Type f = typeOf(first[0]);
                if (f.symbol != 0 || !f.from.equals(typeOf(second[0]))) return 2;
                return commit(2, new Theorem(ordered(both), equation(
                        new Application(first[0], second[0]), new Application(first[1], second[1]))));
            case 2:
                List<Term> rest = new ArrayList<>();
                for (Term h : g.hypotheses) if (!same(h, d.conclusion)) rest.add(h);
                for (Term h : d.hypotheses) if (!same(h, g.conclusion)) rest.add(h);
                return commit(2, new Theorem(ordered(rest), equation(g.conclusion, d.conclusion)));
            default: return 2;
        }
    }

    private int absThm() {
        if (!(top(1) instanceof Variable v) || !(top(0) instanceof Theorem g)) return 1;
        Term[] sides = sides(g.conclusion);
        if (sides == null) return 2;
        for (Term h : g.hypotheses) if (free(h).contains(v)) return 3;
        return commit(2, new Theorem(g.hypotheses,
                equation(new Abstraction(v, sides[0]), new Abstraction(v, sides[1]))));
    }

    private int inst() {
        if (!(top(2) instanceof Variable v) || !(top(1) instanceof Term u) || !(top(0) instanceof Theorem g)) return 1;
        if (!v.type.equals(typeOf(u))) return 2;
        List<Term> hypotheses = new ArrayList<>();
        for (Term h : g.hypotheses) hypotheses.add(replace(h, v, u));
        return commit(3, new Theorem(ordered(hypotheses), replace(g.conclusion, v, u)));
    }

    private int instType(int k) {
        if (!(top(1) instanceof Type a) || !(top(0) instanceof Theorem g)) return 1;
        if (k < 0 || k > 3) return 2;
        List<Term> hypotheses = new ArrayList<>();
        for (Term h : g.hypotheses) hypotheses.add(retype(renamedApart(h), k, a));
        return commit(2, new Theorem(ordered(hypotheses), retype(renamedApart(g.conclusion), k, a)));
    }

    private int keep(int key) {
        Object object = top(0);
        if (object == null) return 1;
        if (key < 0 || key > 5) return 2;
        int done = commit(1, object);
        if (done == 0) dictionary[key] = object;
        return done;
    }

    private int fetch(int key) {
        return key < 0 || key > 5 || dictionary[key] == null ? 2 : commit(0, dictionary[key]);
    }

    private int export() {
        if (!(top(0) instanceof Theorem g)) return 1;
        if (exported.size() == 5) return 4;
        int done = commit(1);
        if (done == 0) exported.add(g);
        return done;
    }

    private int commit(int taken, Object... results) {
        if (commands == 120 || stack.size() - taken + results.length > 12) return 4;
        for (Object result : results) if (!fits(result)) return 4;
        commands++;
        for (int i = 0; i < taken; i++) stack.remove(stack.size() - 1);
        stack.addAll(Arrays.asList(results));
        return 0;
    }

    private static boolean fits(Object object) {
        if (object instanceof Type t) return written(t).size() <= 15;
        if (object instanceof Term t) return written(t).size() <= 40;
        Theorem theorem = (Theorem) object;
        for (Term h : theorem.hypotheses) if (written(h).size() > 40) return false;
        return theorem.hypotheses.size() <= 3 && written(theorem.conclusion).size() <= 40;
    }

    private Object top(int above) {
        return above < 0 || above >= stack.size() ? null : stack.get(stack.size() - 1 - above);
    }

    private int count(int list) {
        int[] counts = {stack.size(), assumed.size(), exported.size(), constants.size(), commands};
        return list < 0 || list > 4 ? -1 : counts[list];
    }

    private Object place(int place) {
        if (place < 100) return top(place);
        if (place < 200) return place > 105 ? null : dictionary[place - 100];
        List<Theorem> list = place < 300 ? assumed : exported;
        int k = place < 300 ? place - 200 : place - 300;
        return k >= list.size() ? null : list.get(k);
    }

    private static int kind(Object object) {
        return object instanceof Type ? 0 : object instanceof Term ? 1 : 2;
    }

    private static List<Integer> part(Object object, int i) {
        if (object instanceof Type t) return i == 0 ? written(t) : null;
        if (object instanceof Term t) return i == 0 ? written(t) : null;
        if (!(object instanceof Theorem t) || i < 0 || i > t.hypotheses.size()) return null;
        return written(i == 0 ? t.conclusion : t.hypotheses.get(i - 1));
    }

    private static Type function(Type a, Type b) {
        return new Type(0, a, b);
    }

    private static Type typeOf(Term term) {
        if (term instanceof Variable v) return v.type;
        if (term instanceof Constant c) return c.number > 0 ? c.type : function(c.type, function(c.type, BOOL));
        if (term instanceof Application a) return typeOf(a.function).to;
        Abstraction l = (Abstraction) term;
        return function(l.variable.type, typeOf(l.body));
    }

    private static Term equation(Term t, Term u) {
        return new Application(new Application(new Constant(0, typeOf(t)), t), u);
    }

    private static Term[] sides(Term term) {
        if (term instanceof Application a && a.function instanceof Application b
                && b.function instanceof Constant c && c.number == 0) {
            return new Term[] {b.argument, a.argument};
        }
        return null;
    }

    private static Set<Variable> free(Term term) {
        Set<Variable> found = new HashSet<>();
        if (term instanceof Variable v) found.add(v);
        if (term instanceof Application a) {
            found.addAll(free(a.function));
            found.addAll(free(a.argument));
        }
        if (term instanceof Abstraction l) {
            found.addAll(free(l.body));
            found.remove(l.variable);
        }
        return found;
    }

    private static Set<Integer> typeVariables(Type type) {
        Set<Integer> found = new HashSet<>();
        if (type.symbol >= 2) found.add(type.symbol);
        if (type.symbol == 0) {
            found.addAll(typeVariables(type.from));
            found.addAll(typeVariables(type.to));
        }
        return found;
    }

    private static Set<Integer> typeVariables(Term term) {
        if (term instanceof Variable v) return typeVariables(v.type);
        if (term instanceof Constant c) return typeVariables(c.type);
        Set<Integer> found = new HashSet<>();
        if (term instanceof Application a) {
            found.addAll(typeVariables(a.function));
            found.addAll(typeVariables(a.argument));
        }
        if (term instanceof Abstraction l) {
            found.addAll(typeVariables(l.variable.type));
            found.addAll(typeVariables(l.body));
        }
        return found;
    }

    private static Term replace(Term term, Variable v, Term u) {
        if (term instanceof Variable w) return w.equals(v) ? u : w;
        if (term instanceof Constant) return term;
        if (term instanceof Application a) {
            return new Application(replace(a.function, v, u), replace(a.argument, v, u));
        }
        Abstraction l = (Abstraction) term;
        if (!free(l).contains(v)) return l;
        if (free(u).contains(l.variable)) l = renamed(l);
        return new Abstraction(l.variable, replace(l.body, v, u));
    }

    private static Abstraction renamed(Abstraction l) {
        Variable other = new Variable(fresh++, l.variable.type);
        return new Abstraction(other, replace(l.body, l.variable, other));
    }

    private static Term renamedApart(Term term) {
        if (term instanceof Application a) {
            return new Application(renamedApart(a.function), renamedApart(a.argument));
        }
        if (!(term instanceof Abstraction l)) return term;
        Abstraction other = renamed(l);
        return new Abstraction(other.variable, renamedApart(other.body));
    }

    private static Type retype(Type type, int k, Type by) {
        if (type.symbol == 2 + k) return by;
        return type.symbol == 0 ? function(retype(type.from, k, by), retype(type.to, k, by)) : type;
    }

    private static Term retype(Term term, int k, Type by) {
        if (term instanceof Variable v) return new Variable(v.name, retype(v.type, k, by));
        if (term instanceof Constant c) return new Constant(c.number, retype(c.type, k, by));
        if (term instanceof Application a) return new Application(retype(a.function, k, by), retype(a.argument, k, by));
        Abstraction l = (Abstraction) term;
        return new Abstraction((Variable) retype((Term) l.variable, k, by), retype(l.body, k, by));
    }

    private static boolean same(Term t, Term u) {
        return written(t).equals(written(u));
    }

    private static List<Term> ordered(List<Term> terms) {
        TreeMap<List<Integer>, Term> sorted = new TreeMap<>(Model::compare);
        for (Term term : terms) sorted.put(written(term), term);
        return new ArrayList<>(sorted.values());
    }

    private static int compare(List<Integer> a, List<Integer> b) {
        for (int i = 0; i < Math.min(a.size(), b.size()); i++) {
            if (!a.get(i).equals(b.get(i))) return Integer.compare(a.get(i), b.get(i));
        }
        return Integer.compare(a.size(), b.size());
    }

    private static List<Integer> written(Type type) {
        List<Integer> out = new ArrayList<>(List.of(type.symbol));
        if (type.symbol == 0) {
            out.addAll(written(type.from));
            out.addAll(written(type.to));
        }
        return out;
    }

    private static List<Integer> written(Term term) {
        List<Integer> out = new ArrayList<>();
        write(term, new ArrayList<>(), out);
        return out;
    }

    private static void write(Term term, List<Variable> around, List<Integer> out) {
        if (term instanceof Variable v) {
            int at = around.lastIndexOf(v);
            if (at >= 0) {
                out.add(20 + around.size() - 1 - at);
            } else {
                out.addAll(List.of(10, v.name));
                out.addAll(written(v.type));
            }
        } else if (term instanceof Constant c) {
            out.addAll(List.of(11, c.number));
            out.addAll(written(c.type));
        } else if (term instanceof Application a) {
            out.add(12);
            write(a.function, around, out);
            write(a.argument, around, out);
        } else if (term instanceof Abstraction l) {
            out.add(13);
            out.addAll(written(l.variable.type));
            around.add(l.variable);
            write(l.body, around, out);
            around.remove(around.size() - 1);
        }
    }
}
