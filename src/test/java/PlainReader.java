import java.util.ArrayList;
import java.util.List;
import java.util.Set;

/** The TEXT for the second checker: by plain recursion, each NAME put in its place as it is read. */
final class PlainReader {
    private static final Set<String> KEYWORDS = Set.of("axiom", "def", "theorem", "inductive", "check",
            "eval", "fun", "forall", "let", "in", "Prop", "Type", "rec");

    private enum Sort { END, BAD, WORD, NUMBER, SIGN }

    private record Bound(String name, PlainTerm.Variable variable) { }

    private final PlainKernel kernel;
    private final String text;
    private final List<Bound> scope = new ArrayList<>();
    private int next;
    private Sort token;
    private int start;
    private String word;
    private int pending;
    private int copies;
    /** How many CONSTANTS a NAME may mean, and which of them rec may not. */
    private int known;
    private int own;

    PlainReader(PlainKernel kernel, String text) {
        this.kernel = kernel;
        this.text = text;
        advance();
    }

    boolean isAtEnd() {
        return token == Sort.END;
    }

    int start() {
        return start;
    }

    void begin() {
        scope.clear();
        pending = 0;
        copies = 0;
        known = kernel.constants.size();
        own = -1;
    }

    /** From here on the family that is declared is known, but not to rec. */
    void know(int family) {
        known = family + 1;
        own = family;
    }

    private int sign(int at) {
        return at < text.length() ? text.charAt(at) : -1;
    }

    private static boolean isLetter(int sign) {
        return sign >= 'a' && sign <= 'z' || sign >= 'A' && sign <= 'Z';
    }

    private static boolean isDigit(int sign) {
        return sign >= '0' && sign <= '9';
    }

    private void advance() {
        skip();
        start = next;
        int sign = sign(start);
        if (sign == -1) {
            token = Sort.END;
        } else if (isLetter(sign)) {
            while (isLetter(sign(next)) || isDigit(sign(next)) || sign(next) == '_' || sign(next) == '\'') {
                next++;
            }
            token = next - start <= 31 ? Sort.WORD : Sort.BAD;
        } else if (isDigit(sign)) {
            while (isDigit(sign(next))) {
                next++;
            }
            token = next - start <= 4 ? Sort.NUMBER : Sort.BAD;
        } else {
            boolean two = text.startsWith(":=", start) || text.startsWith("=>", start)
                    || text.startsWith("->", start);
            next += two ? 2 : 1;
            token = two || "(){}:,.|".indexOf(sign) >= 0 ? Sort.SIGN : Sort.BAD;
        }
        word = text.substring(start, next);
    }

    private void skip() {
        while (next < text.length() && " \t\n\r%".indexOf(sign(next)) >= 0) {
            if (sign(next) == '%') {
                int end = text.indexOf('\n', next);
                next = end < 0 ? text.length() : end;
            } else {
                next++;
            }
        }
    }

    boolean is(String sought) {
        return (token == Sort.WORD || token == Sort.SIGN) && word.equals(sought);
    }

    boolean takes(String sought) {
        boolean taken = is(sought);
        if (taken) {
            advance();
        }
        return taken;
    }

    private boolean isName() {
        return token == Sort.WORD && !KEYWORDS.contains(word);
    }

    PlainKernel.Fault refusal() {
        return new PlainKernel.Fault(1, start);
    }

    void expect(String sought) {
        if (!takes(sought)) {
            throw refusal();
        }
    }

    private String takeName() {
        if (!isName()) {
            throw refusal();
        }
        String name = word;
        advance();
        return name;
    }

    PlainKernel.Constant newConstant(int kind) {
        int place = start;
        String name = takeName();
        if (kernel.find(name, kernel.constants.size()) >= 0) {
            throw new PlainKernel.Fault(2, place);
        }
        if (kernel.constants.size() >= 300) {
            throw kernel.tooGreat();
        }
        PlainKernel.Constant made = new PlainKernel.Constant(name, kind);
        kernel.constants.add(made);
        return made;
    }

    PlainTerm term(int nest) {
        if (nest > 100) {
            throw new PlainKernel.Fault(3, start);
        }
        if (takes("fun")) {
            return abstraction(PlainTerm.Kind.LAM, "=>", nest);
        }
        if (takes("forall")) {
            return abstraction(PlainTerm.Kind.PI, ",", nest);
        }
        return takes("let") ? let(nest) : arrow(nest);
    }

    private PlainTerm abstraction(PlainTerm.Kind kind, String sign, int nest) {
        List<PlainTerm.Variable> variables = binders(nest);
        expect(sign);
        PlainTerm made = term(nest + 1);
        for (int i = variables.size() - 1; i >= 0; i--) {
            made = kernel.bounded(PlainTerm.bind(kind, variables.get(i), made));
            scope.remove(scope.size() - 1);
        }
        return made;
    }

    /** They stay bound behind it. */
    List<PlainTerm.Variable> binders(int nest) {
        List<PlainTerm.Variable> variables = new ArrayList<>();
        do {
            expect("(");
            List<String> names = new ArrayList<>();
            do {
                if (isName() && scope.size() + pending >= 3000) {
                    throw kernel.tooGreat();
                }
                names.add(takeName());
                pending++;
            } while (isName());
            expect(":");
            PlainTerm type = term(nest + 1);
            copies += type.size * (names.size() - 1);
            if (copies > 6000) {
                throw kernel.tooGreat();
            }
            expect(")");
            pending -= names.size();
            for (String name : names) {
                variables.add(bind(name, type));
            }
        } while (is("("));
        return variables;
    }

    private PlainTerm.Variable bind(String name, PlainTerm type) {
        PlainTerm.Variable variable = new PlainTerm.Variable(type);
        scope.add(new Bound(name, variable));
        return variable;
    }

    private PlainTerm let(int nest) {
        String name = takeName();
        expect(":");
        PlainTerm type = term(nest + 1);
        expect(":=");
        PlainTerm value = term(nest + 1);
        expect("in");
        PlainTerm.Variable variable = bind(name, type);
        PlainTerm body = term(nest + 1);
        scope.remove(scope.size() - 1);
        return kernel.bounded(PlainTerm.let(variable, value, body));
    }

    private PlainTerm arrow(int nest) {
        PlainTerm made = atom(nest);
        if (made == null) {
            throw refusal();
        }
        for (PlainTerm atom = atom(nest); atom != null; atom = atom(nest)) {
            made = kernel.bounded(PlainTerm.apply(made, atom));
        }
        if (takes("->")) {
            PlainTerm.Variable nobody = bind("", made);
            PlainTerm body = term(nest + 1);
            scope.remove(scope.size() - 1);
            made = kernel.bounded(PlainTerm.bind(PlainTerm.Kind.PI, nobody, body));
        }
        return made;
    }

    /** Null if no ATOM stands here. */
    private PlainTerm atom(int nest) {
        if (takes("(")) {
            PlainTerm inner = term(nest + 1);
            expect(")");
            return inner;
        }
        if (is("Prop") || is("Type")) {
            return PlainTerm.sort(sort());
        }
        if (takes("rec")) {
            int place = start;
            String name = takeName();
            int family = bound(name) == null ? kernel.find(name, known) : -1;
            if (family < 0 || family == own || kernel.constants.get(family).kind != 3) {
                throw new PlainKernel.Fault(2, place);
            }
            return PlainTerm.rec(family, sort());
        }
        return isName() ? named() : null;
    }

    private int sort() {
        if (takes("Prop")) {
            return 0;
        }
        expect("Type");
        if (token != Sort.NUMBER) {
            throw refusal();
        }
        int level = Integer.parseInt(word);
        if (level > 99) {
            throw new PlainKernel.Fault(3, start);
        }
        advance();
        return level + 1;
    }

    private PlainTerm.Variable bound(String name) {
        for (int i = scope.size() - 1; i >= 0; i--) {
            if (scope.get(i).name().equals(name)) {
                return scope.get(i).variable();
            }
        }
        return null;
    }

    private PlainTerm named() {
        int place = start;
        String name = takeName();
        PlainTerm.Variable variable = bound(name);
        if (variable != null) {
            return PlainTerm.free(variable);
        }
        int constant = kernel.find(name, known);
        if (constant < 0) {
            throw new PlainKernel.Fault(2, place);
        }
        return PlainTerm.constant(constant);
    }
}
