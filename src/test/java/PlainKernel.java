import java.util.ArrayList;
import java.util.List;

/**
 * The second checker: the document once more, as plainly as it can be written, with trees, recursion
 * and no thought of speed. It shares this project's reading of the document.
 */
final class PlainKernel {
    /** Ends a DECLARATION. */
    static final class Fault extends RuntimeException {
        private static final long serialVersionUID = 1;
        final int code;
        final int place;

        Fault(int code, int place) {
            super(null, null, false, false);
            this.code = code;
            this.place = place;
        }
    }

    static final class Constant {
        final String name;
        final int kind;
        PlainTerm type;
        PlainTerm value;
        /** Of a family. */
        List<PlainTerm.Variable> parameters = List.of();
        List<Constant> members = List.of();
        PlainTerm indexed;
        int indices;
        boolean large;
        /** Of a CONSTRUCTOR: its TERM with the PARAMETERS as VARIABLES. */
        PlainTerm term;
        int family;
        int number;
        int arguments;
        int recursive;

        Constant(String name, int kind) {
            this.name = name;
            this.kind = kind;
        }
    }

    final List<Constant> constants = new ArrayList<>();
    final PlainRules rules = new PlainRules(this);
    int sizes;
    int declared;
    int latestWork;
    int code;
    int place;
    String out = "";
    private int start;

    int read(String text) {
        PlainReader reader = new PlainReader(this, text);
        int taken = 0;
        code = 0;
        place = 0;
        while (code == 0 && !reader.isAtEnd()) {
            int had = constants.size();
            start = reader.start();
            reader.begin();
            rules.begin();
            try {
                declaration(reader);
                taken++;
                declared++;
                latestWork = rules.work();
            } catch (Fault fault) {
                code = fault.code;
                place = fault.place;
                constants.subList(had, constants.size()).clear();
            }
        }
        return taken;
    }

    int reset() {
        int had = constants.size();
        constants.clear();
        sizes = 0;
        declared = 0;
        return had;
    }

    boolean allows(int family, int sort) {
        return sort == 0 || constants.get(family).large;
    }

    int find(String name, int limit) {
        for (int i = 0; i < limit; i++) {
            if (constants.get(i).name.equals(name)) {
                return i;
            }
        }
        return -1;
    }

    Fault fault(int what) {
        return new Fault(what, start);
    }

    Fault tooGreat() {
        return fault(10);
    }

    PlainTerm bounded(PlainTerm term) {
        if (term.size > 3000 || term.depth > 200) {
            throw tooGreat();
        }
        return term;
    }

    private void addSizes(int more) {
        if (sizes + more > 30000) {
            throw tooGreat();
        }
        sizes += more;
    }

    private void declaration(PlainReader reader) {
        if (reader.takes("axiom")) {
            constant(reader, 0);
        } else if (reader.takes("def")) {
            constant(reader, 1);
        } else if (reader.takes("theorem")) {
            constant(reader, 2);
        } else if (reader.takes("inductive")) {
            family(reader);
        } else if (reader.takes("check")) {
            PlainTerm value = reader.term(0);
            reader.expect(":");
            PlainTerm type = reader.term(0);
            reader.expect(".");
            rules.sortOf(type);
            rules.check(value, type);
        } else if (reader.takes("eval")) {
            PlainTerm term = reader.term(0);
            reader.expect(".");
            rules.infer(term);
            out = show(rules.normal(term));
        } else {
            throw reader.refusal();
        }
    }

    private void constant(PlainReader reader, int kind) {
        Constant made = reader.newConstant(kind);
        reader.expect(":");
        PlainTerm type = reader.term(0);
        PlainTerm value = null;
        if (kind != 0) {
            reader.expect(":=");
            value = reader.term(0);
        }
        reader.expect(".");
        rules.sortOf(type);
        if (value != null) {
            rules.check(value, type);
        }
        addSizes(type.size + (value == null ? 0 : value.size));
        made.type = type;
        made.value = value;
    }

    private void family(PlainReader reader) {
        int number = constants.size();
        Constant family = reader.newConstant(3);
        if (reader.is("(")) {
            family.parameters = reader.binders(0);
        }
        reader.expect(":");
        family.indexed = reader.term(0);
        reader.expect(":=");
        reader.expect("{");
        family.type = bounded(PlainTerm.bindAll(PlainTerm.Kind.PI, family.parameters, family.indexed));
        int written = family.type.size;
        reader.know(number);
        family.members = new ArrayList<>();
        while (reader.takes("|")) {
            Constant member = reader.newConstant(4);
            member.family = number;
            member.number = constants.size() - 1;
            reader.expect(":");
            member.term = reader.term(0);
            written += member.term.size;
            family.members.add(member);
        }
        reader.expect("}");
        reader.expect(".");
        if (written > 6000) {
            throw tooGreat();
        }
        testFamily(number, family);
        addFamily(number, family);
    }

    private void testFamily(int number, Constant family) {
        PlainTerm end = family.indexed;
        while (end.kind == PlainTerm.Kind.PI) {
            end = end.body();
            family.indices++;
        }
        if (end.kind != PlainTerm.Kind.SORT) {
            throw fault(8);
        }
        int sort = end.number;
        rules.sortOf(family.type);
        family.large = sort != 0 || family.members.isEmpty();
        for (Constant member : family.members) {
            boolean determined = testMember(number, family, member, sort);
            family.large |= determined && family.members.size() == 1;
            member.type = bounded(PlainTerm.bindAll(PlainTerm.Kind.PI, family.parameters, member.term));
            rules.sortOf(member.type);
        }
    }

    /** Whether each ARGUMENT is a proof or just one of the TERMS for INDICES. */
    private boolean testMember(int number, Constant family, Constant member, int sort) {
        List<PlainTerm.Variable> others = new ArrayList<>();
        PlainTerm rest = member.term;
        while (rest.kind == PlainTerm.Kind.PI) {
            PlainTerm type = rest.parts[0];
            int typeSort = rules.sortOf(type);
            if (sort != 0 && typeSort > sort) {
                throw fault(7);
            }
            if (type.hasConstant(number)) {
                testRecursive(number, family, type);
                member.recursive++;
            }
            PlainTerm.Variable variable = new PlainTerm.Variable(type);
            if (typeSort != 0) {
                others.add(variable);
            }
            member.arguments++;
            rest = rules.open(rest.body(), PlainTerm.free(variable));
        }
        testEnd(number, family, rest);
        for (PlainTerm index : indicesOf(family, rest)) {
            others.remove(index.variable);
        }
        return others.isEmpty();
    }

    private void testRecursive(int number, Constant family, PlainTerm type) {
        PlainTerm end = type;
        while (end.kind == PlainTerm.Kind.PI) {
            if (end.parts[0].hasConstant(number)) {
                throw fault(8);
            }
            end = end.body();
        }
        testEnd(number, family, end);
    }

    private void testEnd(int number, Constant family, PlainTerm end) {
        List<PlainTerm> spine = end.spine();
        int parameters = family.parameters.size();
        boolean fits = spine.get(0).kind == PlainTerm.Kind.CONSTANT && spine.get(0).number == number
                && spine.size() == 1 + parameters + family.indices;
        for (int i = 1; fits && i < spine.size(); i++) {
            fits = i <= parameters
                    ? spine.get(i).variable == family.parameters.get(i - 1)
                    : !spine.get(i).hasConstant(number);
        }
        if (!fits) {
            throw fault(8);
        }
    }

    private static List<PlainTerm> indicesOf(Constant family, PlainTerm end) {
        List<PlainTerm> spine = end.spine();
        return spine.subList(1 + family.parameters.size(), spine.size());
    }

    private void addFamily(int number, Constant family) {
        for (Constant member : family.members) {
            PlainTerm rest = member.term;
            while (rest.kind == PlainTerm.Kind.PI) {
                rest = rules.open(rest.body(), PlainTerm.free(new PlainTerm.Variable(rest.parts[0])));
            }
        }
        int more = family.type.size + bounded(recursorType(number, 0)).size;
        for (Constant member : family.members) {
            more += member.type.size + bounded(rule(member, 0)).size;
        }
        addSizes(more);
    }

    /** PARAMETERS, C and one m for each CONSTRUCTOR. */
    private List<PlainTerm.Variable> eliminator(int number, int sort) {
        Constant family = constants.get(number);
        List<PlainTerm.Variable> made = new ArrayList<>(family.parameters);
        List<PlainTerm.Variable> indices = new ArrayList<>();
        family.indexed.takeApart(indices);
        indices.add(new PlainTerm.Variable(familyOver(number, indices)));
        PlainTerm.Variable motive = new PlainTerm.Variable(
                PlainTerm.bindAll(PlainTerm.Kind.PI, indices, PlainTerm.sort(sort)));
        made.add(motive);
        for (Constant member : family.members) {
            made.add(new PlainTerm.Variable(minor(family, member, motive)));
        }
        return made;
    }

    private PlainTerm familyOver(int number, List<PlainTerm.Variable> indices) {
        PlainTerm applied = PlainTerm.applyVariables(PlainTerm.constant(number), constants.get(number).parameters);
        return PlainTerm.applyVariables(applied, indices);
    }

    private PlainTerm minor(Constant family, Constant member, PlainTerm.Variable motive) {
        List<PlainTerm.Variable> arguments = new ArrayList<>();
        PlainTerm end = member.term.takeApart(arguments);
        List<PlainTerm.Variable> hypotheses = new ArrayList<>();
        for (PlainTerm.Variable argument : arguments) {
            if (argument.type.hasConstant(member.family)) {
                List<PlainTerm.Variable> within = new ArrayList<>();
                PlainTerm innerEnd = argument.type.takeApart(within);
                PlainTerm type = PlainTerm.apply(
                        PlainTerm.applyAll(PlainTerm.free(motive), indicesOf(family, innerEnd)),
                        PlainTerm.applyVariables(PlainTerm.free(argument), within));
                hypotheses.add(new PlainTerm.Variable(PlainTerm.bindAll(PlainTerm.Kind.PI, within, type)));
            }
        }
        PlainTerm conclusion = conclusion(family, member, motive, arguments, end);
        return PlainTerm.bindAll(PlainTerm.Kind.PI, arguments,
                PlainTerm.bindAll(PlainTerm.Kind.PI, hypotheses, conclusion));
    }

    private static PlainTerm conclusion(Constant family, Constant member, PlainTerm.Variable motive,
            List<PlainTerm.Variable> arguments, PlainTerm end) {
        return PlainTerm.apply(PlainTerm.applyAll(PlainTerm.free(motive), indicesOf(family, end)),
                built(family, member, arguments));
    }

    private static PlainTerm built(Constant family, Constant member, List<PlainTerm.Variable> arguments) {
        PlainTerm applied = PlainTerm.applyVariables(PlainTerm.constant(member.number), family.parameters);
        return PlainTerm.applyVariables(applied, arguments);
    }

    PlainTerm recursorType(int number, int sort) {
        Constant family = constants.get(number);
        List<PlainTerm.Variable> all = eliminator(number, sort);
        PlainTerm.Variable motive = all.get(family.parameters.size());
        List<PlainTerm.Variable> indices = new ArrayList<>();
        family.indexed.takeApart(indices);
        indices.add(new PlainTerm.Variable(familyOver(number, indices)));
        all.addAll(indices);
        return PlainTerm.bindAll(PlainTerm.Kind.PI, all,
                PlainTerm.applyVariables(PlainTerm.free(motive), indices));
    }

    PlainTerm rule(Constant member, int sort) {
        Constant family = constants.get(member.family);
        List<PlainTerm.Variable> outer = eliminator(member.family, sort);
        List<PlainTerm.Variable> arguments = new ArrayList<>();
        member.term.takeApart(arguments);
        PlainTerm.Variable minor = outer.get(family.parameters.size() + member.number - member.family);
        PlainTerm made = PlainTerm.applyVariables(PlainTerm.free(minor), arguments);
        for (PlainTerm.Variable argument : arguments) {
            if (argument.type.hasConstant(member.family)) {
                List<PlainTerm.Variable> within = new ArrayList<>();
                PlainTerm end = argument.type.takeApart(within);
                PlainTerm call = PlainTerm.applyVariables(PlainTerm.rec(member.family, sort), outer);
                call = PlainTerm.apply(PlainTerm.applyAll(call, indicesOf(family, end)),
                        PlainTerm.applyVariables(PlainTerm.free(argument), within));
                made = PlainTerm.apply(made, PlainTerm.bindAll(PlainTerm.Kind.LAM, within, call));
            }
        }
        outer.addAll(arguments);
        return PlainTerm.bindAll(PlainTerm.Kind.LAM, outer, made);
    }

    /** LAM all, rec of the family on this CONSTRUCTOR: a TERM that takes a RULE's step, and its type. */
    String[] stepOf(Constant member, int sort) {
        Constant family = constants.get(member.family);
        List<PlainTerm.Variable> all = eliminator(member.family, sort);
        PlainTerm call = PlainTerm.applyVariables(PlainTerm.rec(member.family, sort), all);
        PlainTerm.Variable motive = all.get(family.parameters.size());
        List<PlainTerm.Variable> arguments = new ArrayList<>();
        PlainTerm end = member.term.takeApart(arguments);
        call = PlainTerm.apply(PlainTerm.applyAll(call, indicesOf(family, end)), built(family, member, arguments));
        PlainTerm type = conclusion(family, member, motive, arguments, end);
        all.addAll(arguments);
        return new String[] {show(PlainTerm.bindAll(PlainTerm.Kind.LAM, all, call)),
            show(PlainTerm.bindAll(PlainTerm.Kind.PI, all, type))};
    }

    String show(PlainTerm term) {
        StringBuilder shown = new StringBuilder();
        show(shown, term, 0);
        return shown.substring(0, Math.min(65536, shown.length()));
    }

    private static String sortName(int sort) {
        return sort == 0 ? "Prop" : "Type " + (sort - 1);
    }

    private void show(StringBuilder shown, PlainTerm term, int around) {
        switch (term.kind) {
            case BOUND -> shown.append('x').append(around - 1 - term.number);
            case SORT -> shown.append(sortName(term.number));
            case CONSTANT -> shown.append(constants.get(term.number).name);
            case REC -> shown.append("rec ").append(constants.get(term.number).name).append(' ')
                    .append(sortName(term.sort));
            case APPLY -> {
                showPart(shown, term.parts[0], around, false);
                shown.append(' ');
                showPart(shown, term.parts[1], around, true);
            }
            case LET -> {
                shown.append("let x").append(around).append(" : ");
                show(shown, term.parts[0], around);
                shown.append(" := ");
                show(shown, term.parts[1], around);
                shown.append(" in ");
                show(shown, term.body(), around + 1);
            }
            default -> showBinder(shown, term, around);
        }
    }

    private void showBinder(StringBuilder shown, PlainTerm term, int around) {
        if (term.kind == PlainTerm.Kind.PI && !term.body().hasBound(0)) {
            showPart(shown, term.parts[0], around, false);
            shown.append(" -> ");
        } else {
            shown.append(term.kind == PlainTerm.Kind.PI ? "forall (x" : "fun (x").append(around).append(" : ");
            show(shown, term.parts[0], around);
            shown.append(term.kind == PlainTerm.Kind.PI ? "), " : ") => ");
        }
        show(shown, term.body(), around + 1);
    }

    private void showPart(StringBuilder shown, PlainTerm term, int around, boolean atom) {
        boolean inside = term.isBinder() || term.kind == PlainTerm.Kind.LET
                || atom && term.kind == PlainTerm.Kind.APPLY;
        shown.append(inside ? "(" : "");
        show(shown, term, around);
        shown.append(inside ? ")" : "");
    }
}
