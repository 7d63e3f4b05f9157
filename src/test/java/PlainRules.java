import java.util.List;

/** WHNF, CONV, INFER and NORMAL FORM of the second checker, in the document's order. */
final class PlainRules {
    private final PlainKernel kernel;
    private int work;
    private int infers;
    private int convs;
    private int normals;
    private int majors;

    PlainRules(PlainKernel kernel) {
        this.kernel = kernel;
    }

    void begin() {
        work = 0;
        infers = 0;
        convs = 0;
        normals = 0;
        majors = 0;
    }

    int work() {
        return work;
    }

    private void pay(int cost) {
        work += cost;
        if (work > 60000) {
            throw kernel.tooGreat();
        }
    }

    private PlainTerm paid(PlainTerm made) {
        kernel.bounded(made);
        pay(made.size);
        return made;
    }

    PlainTerm open(PlainTerm body, PlainTerm argument) {
        return paid(body.open(argument));
    }

    private static PlainTerm newVariable(PlainTerm type) {
        return PlainTerm.free(new PlainTerm.Variable(type));
    }

    private PlainTerm whnf(PlainTerm term) {
        PlainTerm at = term;
        for (PlainTerm next = step(at); next != null; next = step(at)) {
            at = paid(next);
        }
        return at;
    }

    /** Null if there is none. */
    private PlainTerm step(PlainTerm term) {
        List<PlainTerm> spine = term.spine();
        PlainTerm head = spine.get(0);
        if (head.kind == PlainTerm.Kind.LAM && spine.size() > 1) {
            return PlainTerm.applyAll(head.body().open(spine.get(1)), spine.subList(2, spine.size()));
        }
        if (head.kind == PlainTerm.Kind.LET) {
            return PlainTerm.applyAll(head.body().open(head.parts[1]), spine.subList(1, spine.size()));
        }
        if (head.kind == PlainTerm.Kind.CONSTANT && kernel.constants.get(head.number).kind == 1) {
            return PlainTerm.applyAll(kernel.constants.get(head.number).value, spine.subList(1, spine.size()));
        }
        return head.kind == PlainTerm.Kind.REC ? recursorStep(head, spine.subList(1, spine.size())) : null;
    }

    private PlainTerm recursorStep(PlainTerm rec, List<PlainTerm> given) {
        PlainKernel.Constant family = kernel.constants.get(rec.number);
        int parameters = family.parameters.size();
        int outer = parameters + 1 + family.members.size();
        int major = outer + family.indices;
        if (given.size() <= major) {
            return null;
        }
        majors++;
        if (majors > 60) {
            throw kernel.tooGreat();
        }
        List<PlainTerm> spine = whnf(given.get(major)).spine();
        majors--;
        PlainTerm head = spine.get(0);
        PlainKernel.Constant member = head.kind == PlainTerm.Kind.CONSTANT ? kernel.constants.get(head.number) : null;
        if (member == null || !family.members.contains(member)
                || spine.size() != 1 + parameters + member.arguments) {
            return null;
        }
        PlainTerm made = PlainTerm.applyAll(kernel.rule(member, rec.sort), given.subList(0, outer));
        made = PlainTerm.applyAll(made, spine.subList(1 + parameters, spine.size()));
        return PlainTerm.applyAll(made, given.subList(major + 1, given.size()));
    }

    private boolean conv(PlainTerm left, PlainTerm right) {
        convs++;
        if (convs > 120) {
            throw kernel.tooGreat();
        }
        pay(1);
        boolean same = left.same(right) || convWhnf(whnf(left), right);
        convs--;
        return same;
    }

    private boolean convWhnf(PlainTerm left, PlainTerm unreduced) {
        PlainTerm right = whnf(unreduced);
        if (left.same(right)) {
            return true;
        }
        if (left.kind == right.kind && left.isBinder()) {
            if (!conv(left.parts[0], right.parts[0])) {
                return false;
            }
            PlainTerm variable = newVariable(left.parts[0]);
            PlainTerm opened = open(left.body(), variable);
            return conv(opened, open(right.body(), variable));
        }
        if (left.kind == PlainTerm.Kind.LAM && mayBeFunction(right)) {
            PlainTerm variable = newVariable(left.parts[0]);
            PlainTerm opened = open(left.body(), variable);
            return conv(opened, kernel.bounded(PlainTerm.apply(right, variable)));
        }
        if (right.kind == PlainTerm.Kind.LAM && mayBeFunction(left)) {
            PlainTerm variable = newVariable(right.parts[0]);
            PlainTerm opened = open(right.body(), variable);
            return conv(kernel.bounded(PlainTerm.apply(left, variable)), opened);
        }
        return convSpines(left.spine(), right.spine());
    }

    private static boolean mayBeFunction(PlainTerm term) {
        return term.kind != PlainTerm.Kind.PI && term.kind != PlainTerm.Kind.SORT;
    }

    private boolean convSpines(List<PlainTerm> left, List<PlainTerm> right) {
        PlainTerm head = left.get(0);
        boolean same = mayBeFunction(head) && head.kind != PlainTerm.Kind.LAM && head.same(right.get(0))
                && left.size() == right.size();
        for (int i = 1; same && i < left.size(); i++) {
            same = conv(left.get(i), right.get(i));
        }
        return same;
    }

    int sortOf(PlainTerm term) {
        PlainTerm type = whnf(infer(term));
        if (type.kind != PlainTerm.Kind.SORT) {
            throw kernel.fault(6);
        }
        return type.number;
    }

    void check(PlainTerm term, PlainTerm type) {
        if (!conv(infer(term), type)) {
            throw kernel.fault(4);
        }
    }

    PlainTerm infer(PlainTerm term) {
        infers++;
        if (infers > 150) {
            throw kernel.tooGreat();
        }
        PlainTerm type = switch (term.kind) {
            case SORT -> inferSort(term.number);
            case FREE -> term.variable.type;
            case CONSTANT -> kernel.constants.get(term.number).type;
            case REC -> inferRecursor(term);
            case PI -> inferPi(term);
            case LAM -> inferLam(term);
            case LET -> inferLet(term);
            default -> inferApplied(term.spine());
        };
        infers--;
        return type;
    }

    private PlainTerm inferSort(int sort) {
        if (sort == 100) {
            throw kernel.fault(7);
        }
        return PlainTerm.sort(sort + 1);
    }

    private PlainTerm inferRecursor(PlainTerm rec) {
        if (!kernel.allows(rec.number, rec.sort)) {
            throw kernel.fault(9);
        }
        return paid(kernel.recursorType(rec.number, rec.sort));
    }

    private PlainTerm inferPi(PlainTerm term) {
        int first = sortOf(term.parts[0]);
        int second = sortOf(open(term.body(), newVariable(term.parts[0])));
        return PlainTerm.sort(second == 0 ? 0 : Math.max(first, second));
    }

    private PlainTerm inferLam(PlainTerm term) {
        sortOf(term.parts[0]);
        PlainTerm variable = newVariable(term.parts[0]);
        PlainTerm type = infer(open(term.body(), variable));
        PlainTerm closed = paid(type.close(variable.variable));
        return kernel.bounded(PlainTerm.binder(PlainTerm.Kind.PI, term.parts[0], closed));
    }

    private PlainTerm inferLet(PlainTerm term) {
        sortOf(term.parts[0]);
        check(term.parts[1], term.parts[0]);
        return infer(open(term.body(), term.parts[1]));
    }

    private PlainTerm inferApplied(List<PlainTerm> spine) {
        PlainTerm type = infer(spine.get(0));
        for (PlainTerm argument : spine.subList(1, spine.size())) {
            PlainTerm function = whnf(type);
            if (function.kind != PlainTerm.Kind.PI) {
                throw kernel.fault(5);
            }
            check(argument, function.parts[0]);
            type = open(function.body(), argument);
        }
        return type;
    }

    PlainTerm normal(PlainTerm term) {
        normals++;
        if (normals > 120) {
            throw kernel.tooGreat();
        }
        PlainTerm at = whnf(term);
        PlainTerm made = at.isBinder() ? normalBinder(at) : normalApplied(at.spine());
        normals--;
        return made;
    }

    private PlainTerm normalBinder(PlainTerm term) {
        PlainTerm type = normal(term.parts[0]);
        PlainTerm variable = newVariable(term.parts[0]);
        PlainTerm body = normal(open(term.body(), variable));
        PlainTerm closed = paid(body.close(variable.variable));
        return kernel.bounded(PlainTerm.binder(term.kind, type, closed));
    }

    private PlainTerm normalApplied(List<PlainTerm> spine) {
        PlainTerm made = spine.get(0);
        for (PlainTerm argument : spine.subList(1, spine.size())) {
            made = kernel.bounded(PlainTerm.apply(made, normal(argument)));
        }
        return made;
    }
}
