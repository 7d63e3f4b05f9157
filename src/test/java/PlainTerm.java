import java.util.ArrayList;
import java.util.Collections;
import java.util.List;

/**
 * A TERM as a plain tree, for the second checker: a free VARIABLE is an object of its own, a bound one
 * the number of binders between it and its own. Nothing is shared with the class that is tested.
 */
final class PlainTerm {
    enum Kind { BOUND, FREE, SORT, CONSTANT, REC, PI, LAM, APPLY, LET }

    static final class Variable {
        final PlainTerm type;

        Variable(PlainTerm type) {
            this.type = type;
        }
    }

    final Kind kind;
    /** The binders between, the sort, or the CONSTANT. */
    final int number;
    /** Of REC. */
    final int sort;
    final Variable variable;
    /** PI and LAM: type and body; APPLY: function and argument; LET: type, value and body. */
    final PlainTerm[] parts;
    final int size;
    final int depth;

    private PlainTerm(Kind kind, int number, int sort, Variable variable, PlainTerm... parts) {
        this.kind = kind;
        this.number = number;
        this.sort = sort;
        this.variable = variable;
        this.parts = parts;
        int sizes = 1;
        int deepest = 0;
        for (PlainTerm part : parts) {
            sizes += part.size;
            deepest = Math.max(deepest, part.depth);
        }
        size = sizes;
        depth = kind == Kind.APPLY ? Math.max(parts[0].depth, parts[1].depth + 1) : deepest + 1;
    }

    private static PlainTerm bound(int between) {
        return new PlainTerm(Kind.BOUND, between, 0, null);
    }

    static PlainTerm free(Variable variable) {
        return new PlainTerm(Kind.FREE, 0, 0, variable);
    }

    static PlainTerm sort(int sort) {
        return new PlainTerm(Kind.SORT, sort, 0, null);
    }

    static PlainTerm constant(int constant) {
        return new PlainTerm(Kind.CONSTANT, constant, 0, null);
    }

    static PlainTerm rec(int family, int sort) {
        return new PlainTerm(Kind.REC, family, sort, null);
    }

    static PlainTerm apply(PlainTerm function, PlainTerm argument) {
        return new PlainTerm(Kind.APPLY, 0, 0, null, function, argument);
    }

    static PlainTerm applyAll(PlainTerm function, List<PlainTerm> arguments) {
        PlainTerm made = function;
        for (PlainTerm argument : arguments) {
            made = apply(made, argument);
        }
        return made;
    }

    static PlainTerm applyVariables(PlainTerm function, List<Variable> arguments) {
        PlainTerm made = function;
        for (Variable argument : arguments) {
            made = apply(made, free(argument));
        }
        return made;
    }

    /** PI or LAM of a type and a body that is closed already. */
    static PlainTerm binder(Kind kind, PlainTerm type, PlainTerm body) {
        return new PlainTerm(kind, 0, 0, null, type, body);
    }

    static PlainTerm bind(Kind kind, Variable variable, PlainTerm body) {
        return binder(kind, variable.type, body.close(variable));
    }

    static PlainTerm bindAll(Kind kind, List<Variable> variables, PlainTerm body) {
        PlainTerm made = body;
        for (int i = variables.size() - 1; i >= 0; i--) {
            made = bind(kind, variables.get(i), made);
        }
        return made;
    }

    static PlainTerm let(Variable variable, PlainTerm value, PlainTerm body) {
        return new PlainTerm(Kind.LET, 0, 0, null, variable.type, value, body.close(variable));
    }

    boolean isBinder() {
        return kind == Kind.PI || kind == Kind.LAM;
    }

    /** Of PI, LAM and LET. */
    PlainTerm body() {
        return parts[parts.length - 1];
    }

    private boolean binds(int part) {
        return kind != Kind.APPLY && part == parts.length - 1;
    }

    private PlainTerm with(PlainTerm... others) {
        return new PlainTerm(kind, number, sort, variable, others);
    }

    boolean same(PlainTerm other) {
        boolean same = kind == other.kind && number == other.number && sort == other.sort
                && variable == other.variable && size == other.size;
        for (int i = 0; same && i < parts.length; i++) {
            same = parts[i].same(other.parts[i]);
        }
        return same;
    }

    /** This body with the TERM for what its binder binds. */
    PlainTerm open(PlainTerm argument) {
        return open(argument, 0);
    }

    private PlainTerm open(PlainTerm argument, int between) {
        if (kind == Kind.BOUND) {
            return number == between ? argument : this;
        }
        PlainTerm[] opened = new PlainTerm[parts.length];
        for (int i = 0; i < parts.length; i++) {
            opened[i] = parts[i].open(argument, binds(i) ? between + 1 : between);
        }
        return with(opened);
    }

    PlainTerm close(Variable closed) {
        return close(closed, 0);
    }

    private PlainTerm close(Variable closed, int between) {
        if (kind == Kind.FREE) {
            return variable == closed ? bound(between) : this;
        }
        PlainTerm[] others = new PlainTerm[parts.length];
        for (int i = 0; i < parts.length; i++) {
            others[i] = parts[i].close(closed, binds(i) ? between + 1 : between);
        }
        return with(others);
    }

    boolean hasConstant(int constant) {
        boolean found = kind == Kind.CONSTANT && number == constant;
        for (PlainTerm part : parts) {
            found = found || part.hasConstant(constant);
        }
        return found;
    }

    /** Whether this body has what the binder so many outside of it binds. */
    boolean hasBound(int between) {
        boolean found = kind == Kind.BOUND && number == between;
        for (int i = 0; i < parts.length; i++) {
            found = found || parts[i].hasBound(binds(i) ? between + 1 : between);
        }
        return found;
    }

    /** The head and the TERMS behind it. */
    List<PlainTerm> spine() {
        List<PlainTerm> spine = new ArrayList<>();
        PlainTerm at = this;
        while (at.kind == Kind.APPLY) {
            spine.add(at.parts[1]);
            at = at.parts[0];
        }
        spine.add(at);
        Collections.reverse(spine);
        return spine;
    }

    /** The types of its PI come to the row as new VARIABLES; the end is the answer. */
    PlainTerm takeApart(List<Variable> variables) {
        PlainTerm rest = this;
        while (rest.kind == Kind.PI) {
            Variable variable = new Variable(rest.parts[0]);
            variables.add(variable);
            rest = rest.body().open(free(variable));
        }
        return rest;
    }
}
