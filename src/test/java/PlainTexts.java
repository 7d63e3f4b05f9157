import java.util.ArrayList;
import java.util.List;
import java.util.Random;
import java.util.regex.Matcher;
import java.util.regex.Pattern;

/** Makes texts, most of them right: the same number makes the same texts. */
final class PlainTexts {
    static final List<String> PRELUDE = List.of(
            "inductive nat : Type 0 := { | O : nat | S : nat -> nat }.",
            "def add : nat -> nat -> nat := fun (a b : nat) => "
                    + "rec nat Type 0 (fun (x : nat) => nat) b (fun (x y : nat) => S y) a.",
            "def mul : nat -> nat -> nat := fun (a b : nat) => "
                    + "rec nat Type 0 (fun (x : nat) => nat) O (fun (x y : nat) => add b y) a.",
            "inductive bool : Type 0 := { | true : bool | false : bool }.",
            "inductive eq (A : Type 0) (a : A) : A -> Prop := { | refl : eq A a a }.",
            "inductive False : Prop := { }. inductive True : Prop := { | I : True }.",
            "inductive and (A B : Prop) : Prop := { | conj : A -> B -> and A B }.",
            "inductive or (A B : Prop) : Prop := { | left : A -> or A B | right : B -> or A B }.",
            "inductive list (A : Type 0) : Type 0 := { | nil : list A | cons : A -> list A -> list A }.",
            "inductive vec (A : Type 0) : nat -> Type 0 := { | vnil : vec A O "
                    + "| vcons : forall (n : nat), A -> vec A n -> vec A (S n) }.",
            "inductive acc (A : Type 0) (R : A -> A -> Prop) : A -> Prop := { "
                    + "| ain : forall (x : A), (forall (y : A), R y x -> acc A R y) -> acc A R x }.",
            "inductive tree : Type 0 := { | leaf : tree | node : (nat -> tree) -> nat -> tree -> tree }.",
            "def not : Prop -> Prop := fun (A : Prop) => A -> False.",
            "def id : forall (A : Type 0), A -> A := fun (A : Type 0) (a : A) => a.",
            "axiom f : nat -> nat. axiom c : nat. axiom P : nat -> Prop. axiom pr : forall (x : nat), P x.",
            "theorem th : nat := S O.");

    private static final String[] DATA = {"nat", "bool", "(list nat)", "(nat -> nat)", "(nat -> bool)",
        "(vec nat (S O))", "tree", "((nat -> nat) -> nat)"};
    private static final String[] PROOFS = {"True", "(P c)", "(and True True)", "(eq nat O O)"};
    private static final String[] PREDICATES = {"Prop", "(nat -> Prop)"};
    private static final String[] VARIABLES = {"x", "y", "z", "u", "v", "w"};
    private static final String[] TOKENS = ("( ) { } : , . | := => -> axiom def theorem inductive check eval fun "
            + "forall let in Prop Type rec nat O S add bool true x y z a 0 1 99 100 12345 @ c f P list nil").split(" ");
    private static final Pattern TOKEN = Pattern.compile(":=|=>|->|[A-Za-z][A-Za-z0-9_']*|[0-9]+|\\S");

    private record Known(String name, String type) { }

    private final Random random;
    private final List<Known> context = new ArrayList<>();
    private int made;

    PlainTexts(long number) {
        random = new Random(number);
    }

    int below(int limit) {
        return random.nextInt(limit);
    }

    private String pick(String... choices) {
        return choices[below(choices.length)];
    }

    private String anyType() {
        return below(3) > 0 ? pick(DATA) : below(2) > 0 ? pick(PROOFS) : pick(PREDICATES);
    }

    /** A type's own sort: what rec needs to go into it. */
    private static String sortOf(String type) {
        return List.of(PROOFS).contains(type) ? "Prop" : List.of(PREDICATES).contains(type) ? "Type 1" : "Type 0";
    }

    String declaration(int depth) {
        String type = anyType();
        String number = term("nat", depth);
        switch (below(9)) {
            case 0: return "check " + term(type, depth) + " : " + type + ".";
            case 1: return "def d" + made++ + " : " + type + " := " + term(type, depth) + ".";
            case 2: return "theorem d" + made++ + " : " + type + " := " + term(type, depth) + ".";
            case 3: return "axiom d" + made++ + " : " + term("Prop", depth) + " -> " + type + ".";
            case 4: return family();
            case 5: return "check refl nat " + number + " : eq nat " + number + " " + term("nat", depth) + ".";
            case 6: return "check refl nat " + number + " : eq nat " + number
                    + pick(" (add O ", " (id nat ", " (mul (S O) ") + number + ").";
            default: return "eval " + term(type, depth) + ".";
        }
    }

    private String term(String type, int depth) {
        String known = below(3) == 0 ? known(type) : null;
        if (known != null) {
            return known;
        }
        if (depth > 0 && below(3) == 0) {
            switch (below(4)) {
                case 0: return redex(type, depth - 1);
                case 1: return recursion(type, depth - 1);
                case 2: return choice(type, depth - 1);
                default: return sortOf(type).equals("Type 0") ? "(id " + type + " " + term(type, depth - 1) + ")"
                        : transport(type, depth - 1);
            }
        }
        return canonical(type, depth - 1);
    }

    private String known(String type) {
        List<String> names = new ArrayList<>();
        for (int i = 0; i < context.size(); i++) {
            String name = context.get(i).name();
            boolean hidden = context.subList(i + 1, context.size()).stream().anyMatch(k -> k.name().equals(name));
            if (!hidden && context.get(i).type().equals(type)) {
                names.add(name);
            }
        }
        return names.isEmpty() ? null : names.get(below(names.size()));
    }

    private String under(String name, String type, String goal, int depth) {
        context.add(new Known(name, type));
        String body = term(goal, depth);
        context.remove(context.size() - 1);
        return body;
    }

    private String lambda(String from, String to, int depth) {
        String name = pick(VARIABLES);
        return "(fun (" + name + " : " + from + ") => " + under(name, from, to, depth) + ")";
    }

    private String redex(String type, int depth) {
        String from = pick(DATA);
        String argument = term(from, depth);
        String name = pick(VARIABLES);
        String body = under(name, from, type, depth);
        return below(2) == 0
                ? "(let " + name + " : " + from + " := " + argument + " in " + body + ")"
                : "((fun (" + name + " : " + from + ") => " + body + ") " + argument + ")";
    }

    private String recursion(String type, int depth) {
        String base = term(type, depth);
        context.add(new Known("n", "nat"));
        String next = under("h", type, type, depth);
        context.remove(context.size() - 1);
        if (below(2) == 0) {
            return "(rec nat " + sortOf(type) + " (fun (q : nat) => " + type + ") " + base + " (fun (n : nat) (h : "
                    + type + ") => " + next + ") " + term("nat", depth) + ")";
        }
        return "(rec list " + sortOf(type) + " nat (fun (q : list nat) => " + type + ") " + base
                + " (fun (n : nat) (l : list nat) (h : " + type + ") => " + next + ") "
                + term("(list nat)", depth) + ")";
    }

    private String choice(String type, int depth) {
        return "(rec bool " + sortOf(type) + " (fun (q : bool) => " + type + ") " + term(type, depth) + " "
                + term(type, depth) + " " + term("bool", depth) + ")";
    }

    private String transport(String type, int depth) {
        return "(rec eq " + sortOf(type) + " nat c (fun (q : nat) (e : eq nat c q) => " + type + ") "
                + term(type, depth) + " c (refl nat c))";
    }

    private String canonical(String type, int depth) {
        switch (type) {
            case "nat": return number(depth);
            case "bool": return pick("true", "false");
            case "(list nat)":
                return depth < 0 ? "(nil nat)"
                        : "(cons nat " + term("nat", depth) + " " + term("(list nat)", depth) + ")";
            case "(nat -> nat)": return below(3) == 0 ? pick("f", "S", "(add c)") : lambda("nat", "nat", depth);
            case "(nat -> bool)": return lambda("nat", "bool", depth);
            case "((nat -> nat) -> nat)": return lambda("(nat -> nat)", "nat", depth);
            case "(vec nat (S O))":
                return "(vcons nat " + pick("O", "(add O O)") + " " + term("nat", depth) + " (vnil nat))";
            case "tree": return depth < 0 ? "leaf"
                    : "(node (fun (x : nat) => leaf) " + term("nat", depth) + " " + term("tree", depth) + ")";
            case "True": return "I";
            case "(P c)": return pick("(pr c)", "(pr (id nat c))", "(pr (add O c))");
            case "(and True True)": return "(conj True True " + term("True", depth) + " " + term("True", depth) + ")";
            case "(eq nat O O)": return pick("(refl nat O)", "(refl nat (mul O c))");
            case "(nat -> Prop)": return below(2) == 0 ? "P" : lambda("nat", "Prop", depth);
            default: return proposition(depth);
        }
    }

    private String number(int depth) {
        switch (depth < 0 ? below(3) : below(8)) {
            case 0: return "O";
            case 1: return "c";
            case 2: return pick("th", "(S O)");
            case 3: return "(S " + term("nat", depth) + ")";
            case 4: return "(add " + term("nat", depth) + " " + term("nat", depth) + ")";
            case 5: return "(mul " + term("nat", depth - 1) + " " + term("nat", depth - 1) + ")";
            case 6: return "(" + term("(nat -> nat)", depth) + " " + term("nat", depth) + ")";
            default: return "(" + term("((nat -> nat) -> nat)", depth) + " " + term("(nat -> nat)", depth) + ")";
        }
    }

    private String proposition(int depth) {
        switch (depth < 0 ? below(2) : below(7)) {
            case 0: return "True";
            case 1: return "(P O)";
            case 2: return "(and " + term("Prop", depth) + " " + term("Prop", depth) + ")";
            case 3: return "(not " + term("Prop", depth) + ")";
            case 4: return "(eq nat " + term("nat", depth) + " " + term("nat", depth) + ")";
            case 5: return "(forall (x : nat), " + under("x", "nat", "Prop", depth) + ")";
            default: return "(" + term("Prop", depth) + " -> " + term("Prop", depth) + ")";
        }
    }

    /** Some of these break a rule of inductive. */
    private String family() {
        String name = "F" + made++;
        StringBuilder text = new StringBuilder("inductive ").append(name);
        StringBuilder head = new StringBuilder(name);
        for (int i = below(3); i > 0; i--) {
            text.append(" (p").append(i).append(" : ").append(pick("Type 0", "Prop", "nat", "nat -> Prop")).append(")");
            head.append(" p").append(i);
        }
        text.append(" : ");
        List<String> indices = new ArrayList<>();
        for (int i = below(3); i > 0; i--) {
            String type = pick("nat", "bool", "Prop");
            indices.add(type);
            text.append(below(2) == 0 ? type + " -> " : "forall (i : " + type + "), ");
        }
        text.append(pick("Prop", "Prop", "Type 0", "Type 0", "Type 1")).append(" := {");
        for (int i = below(4); i > 0; i--) {
            text.append(" | ").append(name).append("c").append(i).append(" : ");
            text.append(member(head.toString(), indices));
        }
        return text.append(" }.").toString();
    }

    private String member(String head, List<String> indices) {
        List<Known> arguments = new ArrayList<>();
        StringBuilder text = new StringBuilder();
        for (int i = below(4); i > 0; i--) {
            String type = argument(head, indices, arguments);
            text.append("forall (a").append(i).append(" : ").append(type).append("), ");
            arguments.add(new Known("a" + i, type));
        }
        return text + applied(head, indices, arguments);
    }

    private String argument(String head, List<String> indices, List<Known> arguments) {
        String own = applied(head, indices, arguments);
        switch (below(8)) {
            case 0: return own;
            case 1: return "nat -> " + own;
            case 2: return "forall (z : nat) (y : bool), " + own;
            case 3: return pick("Prop", "Type 0", "P O", "nat -> nat", "forall (x : nat), P x");
            case 4: return below(4) > 0 ? "True" : pick("(" + own + ") -> nat", head, "list (" + own + ")", "O",
                    "(fun (x : Type 0) => x) nat", "let x : Type 0 := nat in x");
            default: return indices.isEmpty() ? "nat" : indices.get(below(indices.size()));
        }
    }

    private String applied(String head, List<String> indices, List<Known> arguments) {
        StringBuilder text = new StringBuilder(head);
        for (String type : indices) {
            List<String> fitting = new ArrayList<>();
            fitting.add(type.equals("nat") ? pick("O", "(S O)") : type.equals("bool") ? "true" : "True");
            for (Known known : arguments) {
                if (known.type().equals(type)) {
                    fitting.add(known.name());
                }
            }
            text.append(' ').append(fitting.get(below(fitting.size())));
        }
        return text.toString();
    }

    /** A text that is near a bound, on this side of it or on the other. */
    String great() {
        switch (below(10)) {
            case 0: return "eval " + nested("(", 98, 103, "O", ")") + ".";
            case 1: return "axiom d" + made++ + " : " + nested("nat -> ", 98, 103, "nat", "") + ".";
            case 2: return "eval " + nested("(add ", 57, 64, "O", " O)") + ".";
            case 3: return "eval mul " + numeral(6, 11) + " " + numeral(9, 13) + ".";
            case 4: return equal(numeral(5, 9), numeral(5, 9));
            case 5: return "check let x : nat := " + numeral(70, 77) + " in " + nested("S (", 70, 77, "x", ")")
                    + " : nat.";
            case 6: return "check let x : nat := c in " + nested("let x : nat := add x x in ", 5, 12, "x", "")
                    + " : nat.";
            case 7: return "axiom d" + made++ + " : forall (" + nested("x ", 144, 151, "", "") + ": nat), "
                    + nested("nat -> ", 0, 4, "nat", "") + ".";
            case 8: return "inductive F" + made++ + " (A : nat -> nat) : Type 0 := {" + members() + " }.";
            default: return "eval fun (x : nat) => " + nested("add (", 8, 40, "x", ") O") + ".";
        }
    }

    private String nested(String before, int least, int most, String middle, String behind) {
        int times = least + below(most - least + 1);
        return before.repeat(times) + middle + behind.repeat(times);
    }

    private String numeral(int least, int most) {
        return "(" + nested("S (", least, most, "O", ")") + ")";
    }

    private static String equal(String first, String second) {
        String left = "(mul " + first + " " + second + ")";
        return "check refl nat " + left + " : eq nat " + left + " (mul " + second + " " + first + ").";
    }

    /** So many that the recursor's type and the rules come near to SIZE 3,000. */
    private String members() {
        String name = "F" + (made - 1);
        StringBuilder text = new StringBuilder();
        for (int i = 30 + below(30); i > 0; i--) {
            text.append(" | ").append(name).append("c").append(i).append(" : nat -> ");
            text.append(below(4) == 0 ? name + " A -> " : "").append(name).append(" A");
        }
        return text.toString();
    }

    /** The text with one or two of its tokens taken out, doubled, changed or put elsewhere. */
    String disturbed(String text) {
        List<String> tokens = new ArrayList<>();
        Matcher matcher = TOKEN.matcher(text);
        while (matcher.find()) {
            tokens.add(matcher.group());
        }
        for (int times = 1 + below(2); times > 0 && !tokens.isEmpty(); times--) {
            int place = below(tokens.size());
            String other = tokens.get(below(tokens.size()));
            switch (below(5)) {
                case 0: tokens.remove(place); break;
                case 1: tokens.add(place, other); break;
                case 2: tokens.set(place, other); break;
                case 3: tokens.add(place, pick(TOKENS)); break;
                default: tokens.set(place, pick(TOKENS)); break;
            }
        }
        return String.join(below(2) == 0 ? " " : " % note\n", tokens);
    }
}
