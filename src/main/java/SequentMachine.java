import java.util.Arrays;

/**
 * A machine with a stack that makes types, terms and theorems of higher-order logic.
 *
 * <p>Types and terms are held as their written forms alone: bound variables have no names there, so
 * terms that are the same have equal rows, and no free variable can become bound by a replacement.
 */
public final class SequentMachine {
    private static final int DONE = 0;
    private static final int WRONG_OBJECTS = 1;
    private static final int MISFIT = 2;
    private static final int SIDE_CONDITION = 3;
    private static final int NO_ROOM = 4;
    private static final int NONE = -1;

    private static final int KIND_TYPE = 0;
    private static final int KIND_TERM = 1;
    private static final int KIND_THEOREM = 2;

    // The symbols of types are below those that begin a term, and so are names and constants' numbers.
    private static final int FUNCTION = 0;
    private static final int BOOL = 1;
    private static final int TYPE_VARIABLE = 2;
    private static final int VARIABLE = 10;
    private static final int CONSTANT = 11;
    private static final int APPLICATION = 12;
    private static final int ABSTRACTION = 13;
    private static final int BOUND = 20;

    private static final int EQUAL = 0;
    private static final int MAKE_BOOL = -1;
    private static final int MAKE_FUNCTION = 4;

    private static final int REFL = 0;
    private static final int ASSUME = 1;
    private static final int BETA = 2;
    private static final int AXIOM = 3;
    private static final int DEFINE = 4;

    private static final int EQMP = 0;
    private static final int APP = 1;
    private static final int DEDUCT = 2;

    private static final int TYPE_VARIABLES = 4;
    private static final int NAMES = 8;
    private static final int KEYS = 6;
    private static final int MOST_COMMANDS = 120;
    private static final int MOST_OBJECTS = 12;
    private static final int MOST_LISTED = 5;
    private static final int MOST_CONSTANTS = 6;
    private static final int MOST_HYPOTHESES = 3;
    private static final int LONGEST_TYPE = 15;
    private static final int LONGEST_TERM = 40;

    private static final int DICTIONARY_PLACES = 100;
    private static final int ASSUMED_PLACES = 200;
    private static final int EXPORTED_PLACES = 300;

    private final Scribe scribe = new Scribe();
    private final Shelf stack = new Shelf(MOST_OBJECTS);
    private final Shelf assumed = new Shelf(MOST_LISTED);
    private final Shelf exported = new Shelf(MOST_LISTED);
    private final Item[] dictionary = new Item[KEYS];
    private final Row[] definedTypes = new Row[MOST_CONSTANTS];
    private final Hypotheses noHypotheses = new Hypotheses();
    private int constants;
    private int commands;

    public SequentMachine() {
        constants = 0;
        commands = 0;
    }

    public int type(int k) {
        if (k < MAKE_BOOL || k > MAKE_FUNCTION) {
            return MISFIT;
        }
        if (k != MAKE_FUNCTION) {
            return finishType(0, scribe.simpleType(k == MAKE_BOOL ? BOOL : TYPE_VARIABLE + k));
        }
        Row from = rowBelow(1, KIND_TYPE);
        Row to = rowBelow(0, KIND_TYPE);
        if (from == null || to == null) {
            return WRONG_OBJECTS;
        }
        return finishType(2, scribe.functionType(from, to));
    }

    public int var(int name) {
        Row type = rowBelow(0, KIND_TYPE);
        if (type == null) {
            return WRONG_OBJECTS;
        }
        if (name < 0 || name >= NAMES) {
            return MISFIT;
        }
        return finishTerm(1, scribe.leaf(VARIABLE, name, type));
    }

    public int constant(int c) {
        if (c < 0 || c > constants) {
            return MISFIT;
        }
        if (c != EQUAL) {
            return finishTerm(0, scribe.leaf(CONSTANT, c, definedTypes[c - 1]));
        }
        Row type = rowBelow(0, KIND_TYPE);
        if (type == null) {
            return WRONG_OBJECTS;
        }
        return finishTerm(1, scribe.leaf(CONSTANT, EQUAL, type));
    }

    public int app() {
        Row function = rowBelow(1, KIND_TERM);
        Row argument = rowBelow(0, KIND_TERM);
        if (function == null || argument == null) {
            return WRONG_OBJECTS;
        }
        if (!takesArgument(scribe.typeOf(function), scribe.typeOf(argument))) {
            return MISFIT;
        }
        return finishTerm(2, scribe.application(function, argument));
    }

    public int abs() {
        Row variable = variableBelow(1);
        Row body = rowBelow(0, KIND_TERM);
        if (variable == null || body == null) {
            return WRONG_OBJECTS;
        }
        return finishTerm(2, scribe.abstraction(variable, body));
    }

    public int theorem(int rule) {
        Row term = rowBelow(0, KIND_TERM);
        if (term == null) {
            return WRONG_OBJECTS;
        }
        switch (rule) {
            case REFL:
                return finishTheorem(1, noHypotheses, scribe.equation(scribe.typeOf(term), term, term));
            case ASSUME:
                return assume(term);
            case BETA:
                return reduce(term);
            case AXIOM:
                return addAxiom(term);
            case DEFINE:
                return define(term);
            default:
                return MISFIT;
        }
    }

    public int join(int rule) {
        Item first = itemBelow(1, KIND_THEOREM);
        Item second = itemBelow(0, KIND_THEOREM);
        if (first == null || second == null) {
            return WRONG_OBJECTS;
        }
        switch (rule) {
            case EQMP:
                return followEquation(first, second);
            case APP:
                return applyEquations(first, second);
            case DEDUCT:
                return deduct(first, second);
            default:
                return MISFIT;
        }
    }

    public int absThm() {
        Row variable = variableBelow(1);
        Item theorem = itemBelow(0, KIND_THEOREM);
        if (variable == null || theorem == null) {
            return WRONG_OBJECTS;
        }
        Equation sides = equationIn(theorem.main);
        if (sides == null) {
            return MISFIT;
        }
        if (theorem.hypotheses.haveFree(variable)) {
            return SIDE_CONDITION;
        }
        Row left = scribe.abstraction(variable, sides.left);
        Row right = scribe.abstraction(variable, sides.right);
        Row type = scribe.functionType(scribe.typeOf(variable), sides.type);
        return finishTheorem(2, theorem.hypotheses, scribe.equation(type, left, right));
    }

    public int inst() {
        Row variable = variableBelow(2);
        Row term = rowBelow(1, KIND_TERM);
        Item theorem = itemBelow(0, KIND_THEOREM);
        if (variable == null || term == null || theorem == null) {
            return WRONG_OBJECTS;
        }
        if (!scribe.typeOf(variable).same(scribe.typeOf(term))) {
            return MISFIT;
        }
        Hypotheses replaced = new Hypotheses();
        for (int i = 0; i < theorem.hypotheses.size; i++) {
            replaced.add(scribe.replaceVariable(theorem.hypotheses.rows[i], variable, term));
        }
        return finishTheorem(3, replaced, scribe.replaceVariable(theorem.main, variable, term));
    }

    public int instType(int k) {
        Row type = rowBelow(1, KIND_TYPE);
        Item theorem = itemBelow(0, KIND_THEOREM);
        if (type == null || theorem == null) {
            return WRONG_OBJECTS;
        }
        if (k < 0 || k >= TYPE_VARIABLES) {
            return MISFIT;
        }
        Hypotheses replaced = new Hypotheses();
        for (int i = 0; i < theorem.hypotheses.size; i++) {
            replaced.add(scribe.replaceTypeVariable(theorem.hypotheses.rows[i], k, type));
        }
        return finishTheorem(2, replaced, scribe.replaceTypeVariable(theorem.main, k, type));
    }

    public int keep(int key) {
        Item item = stack.below(0);
        if (item == null) {
            return WRONG_OBJECTS;
        }
        if (key < 0 || key >= KEYS) {
            return MISFIT;
        }
        int answer = finish(1, item);
        if (answer == DONE) {
            dictionary[key] = item;
        }
        return answer;
    }

    public int fetch(int key) {
        Item item = keptFor(key);
        if (item == null) {
            return MISFIT;
        }
        return finish(0, item);
    }

    public int pop() {
        if (stack.below(0) == null) {
            return WRONG_OBJECTS;
        }
        return finishEmptyHanded(1);
    }

    public int export() {
        Item theorem = itemBelow(0, KIND_THEOREM);
        if (theorem == null) {
            return WRONG_OBJECTS;
        }
        if (exported.isFull()) {
            return NO_ROOM;
        }
        int answer = finishEmptyHanded(1);
        if (answer == DONE) {
            exported.add(theorem);
        }
        return answer;
    }

    public int count(int list) {
        switch (list) {
            case 0:
                return stack.size;
            case 1:
                return assumed.size;
            case 2:
                return exported.size;
            case 3:
                return constants;
            case 4:
                return commands;
            default:
                return NONE;
        }
    }

    public int kind(int place) {
        Item item = itemAt(place);
        return item == null ? NONE : item.sort;
    }

    public int hypotheses(int place) {
        Item item = itemAt(place);
        return item == null || item.sort != KIND_THEOREM ? NONE : item.hypotheses.size;
    }

    public int length(int place, int i) {
        Row part = partAt(place, i);
        return part == null ? NONE : part.size;
    }

    public int symbol(int place, int i, int j) {
        Row part = partAt(place, i);
        return part == null ? NONE : part.at(j);
    }

    private int assume(Row term) {
        if (scribe.typeOf(term).at(0) != BOOL) {
            return MISFIT;
        }
        Hypotheses itself = new Hypotheses();
        itself.add(term);
        return finishTheorem(1, itself, term);
    }

    private int reduce(Row term) {
        if (term.at(0) != APPLICATION || term.at(1) != ABSTRACTION) {
            return MISFIT;
        }
        int bodyStart = term.typeEnd(2);
        int bodyEnd = term.termEnd(bodyStart);
        Row body = term.part(bodyStart, bodyEnd);
        Row argument = term.part(bodyEnd, term.size);
        Row reduced = scribe.replaceOutermost(body, argument);
        return finishTheorem(1, noHypotheses, scribe.equation(scribe.typeOf(term), term, reduced));
    }

    private int addAxiom(Row term) {
        if (scribe.typeOf(term).at(0) != BOOL) {
            return MISFIT;
        }
        if (assumed.isFull()) {
            return NO_ROOM;
        }
        Item axiom = new Item(KIND_THEOREM, term, noHypotheses);
        int answer = finish(1, axiom);
        if (answer == DONE) {
            assumed.add(axiom);
        }
        return answer;
    }

    private int define(Row term) {
        Row type = scribe.typeOf(term);
        if (term.hasFreeVariable() || !term.typeVariablesStandIn(type)) {
            return SIDE_CONDITION;
        }
        if (constants >= MOST_CONSTANTS) {
            return NO_ROOM;
        }
        Row constant = scribe.leaf(CONSTANT, constants + 1, type);
        int answer = finishTheorem(1, noHypotheses, scribe.equation(type, constant, term));
        if (answer == DONE) {
            definedTypes[constants] = type;
            constants++;
        }
        return answer;
    }

    private int followEquation(Item first, Item second) {
        Equation sides = equationIn(first.main);
        if (sides == null || !sides.left.same(second.main)) {
            return MISFIT;
        }
        return finishTheorem(2, hypothesesOfBoth(first, second), sides.right);
    }

    private int applyEquations(Item first, Item second) {
        Equation functions = equationIn(first.main);
        Equation arguments = equationIn(second.main);
        if (functions == null || arguments == null || !takesArgument(functions.type, arguments.type)) {
            return MISFIT;
        }
        Row left = scribe.application(functions.left, arguments.left);
        Row right = scribe.application(functions.right, arguments.right);
        Row conclusion = scribe.equation(functions.type.functionResult(), left, right);
        return finishTheorem(2, hypothesesOfBoth(first, second), conclusion);
    }

    private int deduct(Item first, Item second) {
        Hypotheses rest = new Hypotheses();
        rest.addAllBut(first.hypotheses, second.main);
        rest.addAllBut(second.hypotheses, first.main);
        Row bool = scribe.simpleType(BOOL);
        return finishTheorem(2, rest, scribe.equation(bool, first.main, second.main));
    }

    private Hypotheses hypothesesOfBoth(Item first, Item second) {
        Hypotheses both = new Hypotheses();
        both.addAll(first.hypotheses);
        both.addAll(second.hypotheses);
        return both;
    }

    private Equation equationIn(Row term) {
        boolean found = term.at(0) == APPLICATION && term.at(1) == APPLICATION
                && term.at(2) == CONSTANT && term.at(3) == EQUAL;
        return found ? new Equation(term) : null;
    }

    private boolean takesArgument(Row functionType, Row argumentType) {
        return functionType.at(0) == FUNCTION && functionType.functionArgument().same(argumentType);
    }

    private int finishType(int taken, Row type) {
        return finish(taken, new Item(KIND_TYPE, type, noHypotheses));
    }

    private int finishTerm(int taken, Row term) {
        return finish(taken, new Item(KIND_TERM, term, noHypotheses));
    }

    private int finishTheorem(int taken, Hypotheses hypotheses, Row conclusion) {
        return finish(taken, new Item(KIND_THEOREM, conclusion, hypotheses));
    }

    private int finish(int taken, Item result) {
        if (!result.isSmallEnough() || stack.size - taken >= MOST_OBJECTS) {
            return NO_ROOM;
        }
        int answer = finishEmptyHanded(taken);
        if (answer == DONE) {
            stack.add(result);
        }
        return answer;
    }

    private int finishEmptyHanded(int taken) {
        if (commands >= MOST_COMMANDS) {
            return NO_ROOM;
        }
        commands++;
        stack.drop(taken);
        return DONE;
    }

    private Item itemBelow(int above, int sort) {
        Item item = stack.below(above);
        return item != null && item.sort == sort ? item : null;
    }

    private Row rowBelow(int above, int sort) {
        Item item = itemBelow(above, sort);
        return item == null ? null : item.main;
    }

    private Row variableBelow(int above) {
        Row term = rowBelow(above, KIND_TERM);
        return term != null && term.at(0) == VARIABLE ? term : null;
    }

    private Item keptFor(int key) {
        return key >= 0 && key < KEYS ? dictionary[key] : null;
    }

    private Item itemAt(int place) {
        if (place >= EXPORTED_PLACES) {
            return exported.get(place - EXPORTED_PLACES);
        }
        if (place >= ASSUMED_PLACES) {
            return assumed.get(place - ASSUMED_PLACES);
        }
        if (place >= DICTIONARY_PLACES) {
            return keptFor(place - DICTIONARY_PLACES);
        }
        return stack.below(place);
    }

    private Row partAt(int place, int i) {
        Item item = itemAt(place);
        if (item == null) {
            return null;
        }
        return i == 0 ? item.main : item.hypotheses.get(i - 1);
    }

    /** A row of symbols that never changes: a written form, or a part of one. */
    private static final class Row {
        private final int[] symbols;
        private final int from;
        private final int size;

        Row(int[] symbols, int from, int to) {
            boolean inside = from >= 0 && from <= to && to <= symbols.length;
            this.symbols = symbols;
            this.from = inside ? from : 0;
            this.size = inside ? to - from : 0;
        }

        int at(int place) {
            return place >= 0 && place < size ? symbols[from + place] : NONE;
        }

        Row part(int start, int end) {
            return new Row(symbols, from + start, from + end);
        }

        /** Where the type that starts there ends. */
        int typeEnd(int start) {
            int missing = 1;
            int end = start;
            while (end < size && missing > 0) {
                missing += at(end) == FUNCTION ? 1 : -1;
                end++;
            }
            return end;
        }

        /** Where the term that starts there ends: behind the last of the symbols that begin no other term. */
        int termEnd(int start) {
            int missing = 1;
            for (int end = start; end < size; end++) {
                boolean begins = at(end) >= VARIABLE;
                if (begins && missing == 0) {
                    return end;
                }
                if (begins) {
                    missing += termsWithin(at(end)) - 1;
                }
            }
            return size;
        }

        Row typeAt(int start) {
            return new Row(symbols, from + start, from + typeEnd(start));
        }

        Row functionArgument() {
            return typeAt(1);
        }

        Row functionResult() {
            return new Row(symbols, from + typeEnd(1), from + size);
        }

        boolean same(Row other) {
            return size == other.size && holdsAt(0, other);
        }

        boolean holdsAt(int place, Row other) {
            for (int i = 0; i < other.size; i++) {
                if (at(place + i) != other.at(i)) {
                    return false;
                }
            }
            return true;
        }

        boolean comesBefore(Row other) {
            for (int i = 0; i < size; i++) {
                if (at(i) != other.at(i)) {
                    return at(i) < other.at(i);
                }
            }
            return false;
        }

        boolean hasFree(Row variable) {
            for (int i = 0; i < size; i++) {
                if (holdsAt(i, variable)) {
                    return true;
                }
            }
            return false;
        }

        boolean hasFreeVariable() {
            return has(VARIABLE);
        }

        boolean has(int symbol) {
            for (int i = 0; i < size; i++) {
                if (at(i) == symbol) {
                    return true;
                }
            }
            return false;
        }

        boolean typeVariablesStandIn(Row type) {
            for (int i = 0; i < size; i++) {
                if (isOfType(i) && at(i) >= TYPE_VARIABLE && !type.has(at(i))) {
                    return false;
                }
            }
            return true;
        }

        /** Whether a symbol of this term belongs to a type: it begins no term and is no name or number. */
        boolean isOfType(int place) {
            int before = at(place - 1);
            return at(place) < VARIABLE && before != VARIABLE && before != CONSTANT;
        }

        static int termsWithin(int head) {
            if (head == APPLICATION) {
                return 2;
            }
            return head == ABSTRACTION ? 1 : 0;
        }
    }

    /** The parts of a term that is an equation. */
    private static final class Equation {
        private final Row type;
        private final Row left;
        private final Row right;

        Equation(Row term) {
            int typeEnd = term.typeEnd(4);
            int leftEnd = term.termEnd(typeEnd);
            type = term.part(4, typeEnd);
            left = term.part(typeEnd, leftEnd);
            right = term.part(leftEnd, term.size);
        }
    }

    /** Hypotheses in their order, no two the same. */
    private static final class Hypotheses {
        // Two theorems' hypotheses come together here before anyone asks whether they are too many.
        private final Row[] rows = new Row[2 * MOST_HYPOTHESES];
        private int size;

        Row get(int i) {
            return i >= 0 && i < size ? rows[i] : null;
        }

        void add(Row row) {
            int place = 0;
            while (place < size && rows[place].comesBefore(row)) {
                place++;
            }
            if (size >= rows.length || place < size && rows[place].same(row)) {
                return;
            }
            for (int i = size; i > place; i--) {
                rows[i] = rows[i - 1];
            }
            rows[place] = row;
            size++;
        }

        void addAll(Hypotheses others) {
            for (int i = 0; i < others.size; i++) {
                add(others.rows[i]);
            }
        }

        void addAllBut(Hypotheses others, Row leftOut) {
            for (int i = 0; i < others.size; i++) {
                if (!others.rows[i].same(leftOut)) {
                    add(others.rows[i]);
                }
            }
        }

        boolean haveFree(Row variable) {
            for (int i = 0; i < size; i++) {
                if (rows[i].hasFree(variable)) {
                    return true;
                }
            }
            return false;
        }

        boolean areSmallEnough() {
            for (int i = 0; i < size; i++) {
                if (rows[i].size > LONGEST_TERM) {
                    return false;
                }
            }
            return size <= MOST_HYPOTHESES;
        }
    }

    /** A type, a term or a theorem; what it is made of never changes once it lies on the stack. */
    private static final class Item {
        private final int sort;
        private final Row main;
        private final Hypotheses hypotheses;

        Item(int sort, Row main, Hypotheses hypotheses) {
            this.sort = sort;
            this.main = main;
            this.hypotheses = hypotheses;
        }

        boolean isSmallEnough() {
            int longest = sort == KIND_TYPE ? LONGEST_TYPE : LONGEST_TERM;
            return main.size <= longest && hypotheses.areSmallEnough();
        }
    }

    /** A list of items with a limit. */
    private static final class Shelf {
        private final Item[] items;
        private int size;

        Shelf(int limit) {
            items = new Item[limit];
        }

        boolean isFull() {
            return size >= items.length;
        }

        Item get(int k) {
            return k >= 0 && k < size ? items[k] : null;
        }

        Item below(int above) {
            return above >= 0 && above < size ? items[size - 1 - above] : null;
        }

        void add(Item item) {
            if (size < items.length) {
                items[size] = item;
                size++;
            }
        }

        void drop(int number) {
            size = Math.max(0, size - number);
        }
    }

    /** Goes along a term's symbols and knows how many abstractions stand around each. */
    private static final class Depth {
        // For each abstraction around: how many terms are still to come when it has ended.
        private final int[] restAfter = new int[LONGEST_TERM];
        private int around;
        private int missing;

        void begin() {
            around = 0;
            missing = 1;
        }

        void pass(int symbol) {
            if (symbol < VARIABLE) {
                return;
            }
            while (around > 0 && restAfter[around - 1] >= missing) {
                around--;
            }
            missing += Row.termsWithin(symbol) - 1;
            if (symbol == ABSTRACTION && around < restAfter.length) {
                restAfter[around] = missing - 1;
                around++;
            }
        }
    }

    /** Writes new rows, all on one page that is used again and again. */
    private static final class Scribe {
        // The type of a term that is short enough is less than twice as long as the term. A row that
        // is longer than the page is cut, but stays too long for a term, so it never reaches the stack.
        private final int[] page = new int[2 * LONGEST_TERM + 1];
        private int used;
        private final Depth depth = new Depth();
        private final Row[] binders = new Row[LONGEST_TERM];

        Row simpleType(int symbol) {
            put(symbol);
            return finishedRow();
        }

        Row functionType(Row from, Row to) {
            put(FUNCTION);
            putRow(from);
            putRow(to);
            return finishedRow();
        }

        Row leaf(int head, int number, Row type) {
            put(head);
            put(number);
            putRow(type);
            return finishedRow();
        }

        Row application(Row function, Row argument) {
            put(APPLICATION);
            putRow(function);
            putRow(argument);
            return finishedRow();
        }

        Row equation(Row type, Row left, Row right) {
            put(APPLICATION);
            put(APPLICATION);
            put(CONSTANT);
            put(EQUAL);
            putRow(type);
            putRow(left);
            putRow(right);
            return finishedRow();
        }

        Row abstraction(Row variable, Row body) {
            put(ABSTRACTION);
            putRow(variable.typeAt(2));
            depth.begin();
            int replacedTo = 0;
            for (int i = 0; i < body.size; i++) {
                depth.pass(body.at(i));
                if (body.holdsAt(i, variable)) {
                    put(BOUND + depth.around);
                    replacedTo = i + variable.size;
                } else if (i >= replacedTo) {
                    put(body.at(i));
                }
            }
            return finishedRow();
        }

        Row replaceVariable(Row term, Row variable, Row by) {
            int replacedTo = 0;
            for (int i = 0; i < term.size; i++) {
                if (term.holdsAt(i, variable)) {
                    putRow(by);
                    replacedTo = i + variable.size;
                } else if (i >= replacedTo) {
                    put(term.at(i));
                }
            }
            return finishedRow();
        }

        /** An abstraction's body in which the abstraction's own variable is replaced. */
        Row replaceOutermost(Row body, Row by) {
            depth.begin();
            for (int i = 0; i < body.size; i++) {
                depth.pass(body.at(i));
                if (body.at(i) == BOUND + depth.around) {
                    putRow(by);
                } else {
                    put(body.at(i));
                }
            }
            return finishedRow();
        }

        Row replaceTypeVariable(Row term, int k, Row by) {
            for (int i = 0; i < term.size; i++) {
                if (term.isOfType(i) && term.at(i) == TYPE_VARIABLE + k) {
                    putRow(by);
                } else {
                    put(term.at(i));
                }
            }
            return finishedRow();
        }

        /** Goes down to the leaf whose type, less the arguments that it has, ends the type of the term. */
        Row typeOf(Row term) {
            int arguments = 0;
            int around = 0;
            for (int i = 0; i < term.size; i++) {
                int head = term.at(i);
                if (head == APPLICATION) {
                    arguments++;
                } else if (head == ABSTRACTION && around < binders.length) {
                    binders[around] = term.typeAt(i + 1);
                    if (arguments > 0) {
                        arguments--;
                    } else {
                        put(FUNCTION);
                        putRow(binders[around]);
                    }
                    around++;
                } else if (head >= VARIABLE) {
                    putLeafType(term, i, around, arguments);
                    break;
                }
            }
            return finishedRow();
        }

        private void putLeafType(Row term, int place, int around, int arguments) {
            int head = term.at(place);
            if (head == CONSTANT && term.at(place + 1) == EQUAL) {
                putEqualType(term.typeAt(place + 2), arguments);
                return;
            }
            int binder = around - 1 - (head - BOUND);
            boolean isBound = head >= BOUND && binder >= 0;
            Row result = isBound ? binders[binder] : term.typeAt(place + 2);
            for (int i = 0; i < arguments; i++) {
                result = result.functionResult();
            }
            putRow(result);
        }

        private void putEqualType(Row sideType, int arguments) {
            for (int i = arguments; i < 2; i++) {
                put(FUNCTION);
                putRow(sideType);
            }
            put(BOOL);
        }

        private void put(int symbol) {
            if (used < page.length) {
                page[used] = symbol;
                used++;
            }
        }

        private void putRow(Row row) {
            for (int i = 0; i < row.size; i++) {
                put(row.at(i));
            }
        }

        private Row finishedRow() {
            Row row = new Row(Arrays.copyOf(page, used), 0, used);
            used = 0;
            return row;
        }
    }
}
