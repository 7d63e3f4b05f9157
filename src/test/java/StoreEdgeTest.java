/**
 * What a DECLARATION and the ENVIRONMENT may hold: WORK, SIZES, words, copies and CONSTANTS, one before the bound,
 * at it and one behind it.
 */
public final class StoreEdgeTest {
    private static final Bench BENCH = new Bench();

    public static void main(String[] args) {
        work();
        workOfEachDeclaration();
        textOfFamily();
        wordsBound();
        wordsOfEachKind();
        copies();
        copiesOfADeclaration();
        constants();
        constantsOfAFamily();
        sizesOfTypes();
        sizesOfValues();
        sizesOfFamilies();
        refusedFamilies();
        Bench.finish(StoreEdgeTest.class);
    }

    /** A chain of n arrows costs n * n, one before the others also their SIZE. */
    private static String chains(int... arrows) {
        StringBuilder text = new StringBuilder();
        for (int number : arrows) {
            text.append("(").append(Bench.repeat("Prop -> ", number)).append("Prop) -> ");
        }
        return text.append("Prop").toString();
    }

    private static void work() {
        BENCH.renew();
        BENCH.costs("axiom a : " + chains(90, 90, 90, 90, 90, 63, 89, 57) + ".", 59999);
        BENCH.costs("axiom b : " + chains(90, 90, 90, 90, 90, 72, 78, 62) + ".", 60000);
        BENCH.refuses("axiom c : " + chains(90, 90, 90, 90, 90, 60, 93, 54) + ".", 10, 0);
        Bench.due("work of the latest that was accepted", BENCH.kernel().count(2), 60000);
        // It is TOO GREAT before what only comes behind it is judged.
        BENCH.refuses("def c : " + chains(90, 90, 90, 90, 90, 72, 78, 62) + " := Prop Prop.", 5, 0);
        BENCH.refuses("def c : " + chains(90, 90, 90, 90, 90, 60, 93, 54) + " := Prop Prop.", 10, 0);
        // CONV costs 1: the type costs 59,999 or 60,000, the CHECK that the value is of another type 1 more.
        BENCH.takes("axiom p : Prop.");
        BENCH.refuses("def c : " + chains(90, 90, 90, 90, 90, 63, 89, 57) + " := p.", 4, 0);
        BENCH.refuses("def c : " + chains(90, 90, 90, 90, 90, 72, 78, 62) + " := p.", 10, 0);
    }

    /** Each DECLARATION of a TEXT has its own WORK. */
    private static void workOfEachDeclaration() {
        BENCH.renew();
        String type = chains(90, 90, 90, 90, 90, 72, 78, 62);
        BENCH.takes("check Prop : Type 0. eval " + type + ".", 1, 10, 21);
        BENCH.takes("axiom a : " + type + ". axiom b : Prop -> Prop.", 2);
        Bench.due("work of the last", BENCH.kernel().count(2), 1);
        BENCH.refuses("eval " + type + ".", 10, 0);
        Bench.due("work of the latest that was accepted", BENCH.kernel().count(2), 1);
        BENCH.costs("axiom c : Prop.", 0);
        BENCH.costs("axiom d : " + type.replace("Prop ->", "Prop->") + ".", 60000);
        BENCH.kernel().reset();
        Bench.due("work behind reset", BENCH.kernel().count(2), 60000);
    }

    /** An f with so many f behind it. */
    private static String fs(int number) {
        return "f" + Bench.repeat(" f", number);
    }

    /** With let, which makes a SIZE even, PI PARAMETERS T and the CONSTRUCTORS come to the SIZE. */
    private static String family(int size) {
        String even = "let y : f := f in f";
        // 3 for PI PARAMETERS T, 4 times 1,499, 1 or 4 for the last, the first two with 1 more each.
        int rest = size - 3 - 3 * 1499;
        String last = rest % 2 == 0 ? even + Bench.repeat(" f", (rest - 4) / 2) : fs((rest - 1) / 2);
        return "inductive I (x : Prop) : Prop := { | a : " + fs(749) + " | b : " + fs(749) + " | c : " + fs(749)
                + " | d : " + last + " }";
    }

    private static void textOfFamily() {
        BENCH.renew();
        BENCH.takes("axiom f : Prop.");
        for (int size = 5998; size <= 6002; size++) {
            String text = family(size);
            // The first CONSTRUCTOR does not end in I.
            BENCH.refuses(text + ".", size <= 6000 ? 8 : 10, 0);
            // It is tested behind the last sign, and before all else.
            BENCH.refuses(text, 1, text.length());
            BENCH.refuses(text + " @", 1, text.length() + 1);
            BENCH.refuses(text + " | e : none }.", 1, text.length() + 1);
            BENCH.refuses(text + ". @", size <= 6000 ? 8 : 10, 0);
            // Of T that is no PI .. SORT the same.
            BENCH.refuses(text.replace(") : Prop :=", ") : f :=") + ".", size <= 6000 ? 8 : 10, 0);
        }
        // The PARAMETERS count once, not for each CONSTRUCTOR.
        String wide = "inductive I (x : " + fs(1400) + ") : Prop := { | a : " + fs(749) + " | b : " + fs(749) + " }.";
        BENCH.refuses(wide, 5, 0);
        // Two TERMS of the greatest SIZE come to no more than 6,000.
        String let = "let y : f := f in " + fs(1498);
        BENCH.refuses("check " + let + " : " + let + ".", 4, 0);
        BENCH.refuses("def d : " + let + " := " + let + ".", 4, 0);
    }

    private static void bounds(boolean fits, String text) {
        if (fits) {
            BENCH.fits(text);
        } else {
            BENCH.isTooGreat(text);
        }
    }

    private static void wordsBound() {
        BENCH.renew();
        for (int words = 2999; words <= 3001; words++) {
            bounds(words <= 3000, "eval fun (" + Bench.repeat("x ", words));
            bounds(words <= 3000, "eval forall (" + Bench.repeat("x ", words));
            bounds(words <= 3000, "inductive I (" + Bench.repeat("x ", words));
            bounds(words <= 3000, "eval fun (x y : Prop) (" + Bench.repeat("x ", words - 2));
            bounds(words <= 3000, "eval fun (x y : forall (" + Bench.repeat("x ", words - 2));
            bounds(words <= 3000, "eval fun (x y : Prop) (z : forall (" + Bench.repeat("x ", words - 3));
            bounds(words <= 3000, "inductive I (x y : Prop) (" + Bench.repeat("x ", words - 2));
            bounds(words <= 3000, "inductive I (x y : forall (" + Bench.repeat("x ", words - 2));
        }
        // It is found at once, at the NAME: not at what can't stand there, and before what is behind the NAME.
        String most = "eval fun (" + Bench.repeat("x ", 3000);
        BENCH.refuses(most, 1, most.length());
        BENCH.refuses(most + ": none", 2, most.length() + 2);
        BENCH.refuses(most + "Prop", 1, most.length());
        BENCH.refuses(most + "x", 10, 0);
        BENCH.refuses(most + "none", 10, 0);
        BENCH.refuses(most + Bench.repeat("w", 32), 1, most.length());
        BENCH.refuses("  " + most + "x", 10, 2);
        // let and -> bind more words, but need no room for a NAME in BINDERS.
        BENCH.fits(most + ": Prop) => Prop -> let y : Prop := Prop in (");
        BENCH.isTooGreat(most + ": Prop) => Prop -> let y : Prop := Prop in fun (x");
    }

    /** What each kind of binder binds counts for one while it is around, and no longer. */
    private static void wordsOfEachKind() {
        BENCH.renew();
        String[] around = {"fun (x : Prop) => ", "forall (x : Prop), ", "let x : Prop := Prop in ", "Prop -> "};
        for (String binder : around) {
            bounds(true, "eval " + binder + "forall (" + Bench.repeat("x ", 2998));
            bounds(true, "eval " + binder + "forall (" + Bench.repeat("x ", 2999));
            bounds(false, "eval " + binder + "forall (" + Bench.repeat("x ", 3000));
            bounds(true, "eval (" + binder + "Prop) -> forall (" + Bench.repeat("x ", 2999));
            bounds(false, "eval (" + binder + "Prop) -> forall (" + Bench.repeat("x ", 3000));
            bounds(true, "eval fun (x : " + binder + "Prop) (" + Bench.repeat("x ", 2999));
            bounds(false, "eval fun (x : " + binder + "Prop) (" + Bench.repeat("x ", 3000));
            bounds(true, "inductive I (x : Prop) : " + binder + "forall (" + Bench.repeat("x ", 2998));
            bounds(false, "inductive I (x : Prop) : " + binder + "forall (" + Bench.repeat("x ", 2999));
            bounds(true, "inductive I (x : Prop) : Prop := { | c : " + binder + "forall (" + Bench.repeat("x ", 2998));
            bounds(false, "inductive I (x : Prop) : Prop := { | c : " + binder + "forall (" + Bench.repeat("x ", 2999));
            bounds(true, "check (" + binder + "Prop) : forall (" + Bench.repeat("x ", 3000));
            bounds(true, "def d : (" + binder + "Prop) := forall (" + Bench.repeat("x ", 3000));
        }
        // In let's type and value its word is not around yet.
        bounds(true, "eval let y : forall (" + Bench.repeat("x ", 3000));
        bounds(true, "eval let y : Prop := forall (" + Bench.repeat("x ", 3000));
        bounds(false, "eval let y : Prop := forall (" + Bench.repeat("x ", 3001));
    }

    /** 2,000 NAMES for a SIZE of 3 are 5,997 copies, k + 1 NAMES for a SIZE of 1 are k more. */
    private static String copying(int copies) {
        return "(" + Bench.repeat("x ", 2000) + ": Prop -> Prop) (" + Bench.repeat("x ", copies - 5997 + 1) + ": Prop";
    }

    private static void copies() {
        BENCH.renew();
        for (int copies = 5998; copies <= 6002; copies++) {
            bounds(copies <= 6000, "eval fun " + copying(copies));
            bounds(copies <= 6000, "eval forall " + copying(copies));
            bounds(copies <= 6000, "inductive I " + copying(copies));
        }
        // When the TERM is whole, before what is behind it is judged; one NAME copies nothing.
        BENCH.refuses("eval fun " + copying(6001), 10, 0);
        BENCH.refuses("eval fun " + copying(6001) + " none", 2, 10 + copying(6001).length());
        BENCH.fits("eval fun " + copying(6000) + ") (x : Prop -> Prop -> Prop -> Prop)");
        BENCH.refuses("  eval fun " + copying(6000) + ") (x y : Prop)", 10, 2);
        // SIZE 1 for 3,000 NAMES, SIZE 2,999 for 3 and SIZE 3,000 for 3 and 4.
        BENCH.fits("eval fun (" + Bench.repeat("x ", 3000) + ": Prop");
        BENCH.takes("axiom f : Prop.");
        BENCH.fits("eval fun (x y z : " + fs(1499));
        BENCH.fits("eval fun (x y z : let y : f := f in " + fs(1498));
        BENCH.isTooGreat("eval fun (x y z w : " + fs(1499));
        BENCH.fits("eval fun (x y z : let y : f := f in " + fs(1498) + ") (x : Prop");
        BENCH.isTooGreat("eval fun (x y z : let y : f := f in " + fs(1498) + ") (x y : Prop");
    }

    /** All BINDERS of the DECLARATION together, in whatever TERM; the next DECLARATION begins anew. */
    private static void copiesOfADeclaration() {
        BENCH.renew();
        // Twice 30 times 45 are 2,700; NAMES for a SIZE of 3 fill it up to 6,000 with 1,100 copies.
        String many = "forall (" + Bench.repeat("x ", 31) + ": Prop" + Bench.repeat(" Prop", 22) + "), Prop";
        String twice = "(" + many + ") -> " + many;
        for (int names = 1100; names <= 1102; names++) {
            String more = "forall (" + Bench.repeat("x ", names) + ": Prop -> Prop";
            bounds(names <= 1101, "eval (" + many + ") -> (" + many + ") -> " + more);
            bounds(names <= 1101, "check " + twice + " : " + more);
            bounds(names <= 1101, "def d : " + twice + " := " + more);
            bounds(names <= 1101, "theorem d : " + twice + " := " + more);
            bounds(names <= 1101, "eval forall (w : " + twice + ") (v : " + more);
            bounds(names <= 1101, "eval forall (w : " + many + ") (v : " + many + "), " + more);
            bounds(names <= 1101, "inductive I : Prop := { | a : " + many + " | b : " + many + " | c : " + more);
            bounds(names <= 1101, "inductive I (w : " + many + ") : " + many + " := { | a : " + more);
            bounds(names <= 1101, "eval let w : " + many + " := " + many + " in " + more);
        }
        String text = "check Prop : Type 0. eval " + twice + " -> forall (" + Bench.repeat("x ", 1102) + ": Prop -> Prop";
        BENCH.takes(text, 1, 10, 21);
        text = "eval forall (" + Bench.repeat("x ", 100) + ": Prop -> Prop), Prop. eval forall ("
                + Bench.repeat("x ", 2001) + ": Prop -> Prop) @";
        BENCH.takes(text, 1, 1, text.indexOf("@"));
        // Within a TERM in BINDERS the inner ones count too: 100, then 29 or 30 times 203.
        String inner = "forall (" + Bench.repeat("x ", 101) + ": Prop), Prop";
        BENCH.fits("eval forall (" + Bench.repeat("y ", 30) + ": " + inner);
        BENCH.isTooGreat("eval forall (" + Bench.repeat("y ", 31) + ": " + inner);
    }

    private static String axioms(int from, int to) {
        StringBuilder text = new StringBuilder();
        for (int i = from; i < to; i++) {
            text.append("axiom a").append(i).append(":Prop.");
        }
        return text.toString();
    }

    private static void constants() {
        String[] kinds = {"axiom z : Prop.", "def z : Type 0 := Prop.", "theorem z : Type 0 := Prop.", "inductive z : Prop := { }."};
        for (String kind : kinds) {
            for (int had = 298; had <= 300; had++) {
                BENCH.renew();
                BENCH.takes(axioms(0, had), had);
                if (had < 300) {
                    BENCH.takes(kind);
                    Bench.due("constants", BENCH.kernel().count(0), had + 1);
                } else {
                    BENCH.refuses(kind, 10, 0);
                    // It is found when the NAME is read.
                    BENCH.refuses("  " + kind.substring(0, kind.indexOf("z") + 1), 10, 2);
                    BENCH.refuses(kind.substring(0, kind.indexOf("z")), 1, kind.indexOf("z"));
                    BENCH.refuses(kind.substring(0, kind.indexOf("z")) + "@", 1, kind.indexOf("z"));
                    BENCH.refuses(kind.replace("z", "Prop"), 1, kind.indexOf("z"));
                }
            }
        }
        // check and eval make none.
        BENCH.takes("check Prop : Type 0. eval a299.", 2);
        BENCH.takes(axioms(0, 0) + "eval a0. axiom z : Prop.", 1, 10, 9);
        Bench.due("reset()", BENCH.kernel().reset(), 300);
        BENCH.takes("axiom z : Prop.");
        Bench.due("constants", BENCH.kernel().count(0), 1);
    }

    private static void constantsOfAFamily() {
        for (int had = 296; had <= 299; had++) {
            BENCH.renew();
            BENCH.takes(axioms(0, had), had);
            String three = "inductive I : Prop := { | x : I | y : I | z : I }.";
            if (had == 296) {
                BENCH.takes(three);
                Bench.due("constants", BENCH.kernel().count(0), 300);
                BENCH.refuses("axiom w : Prop.", 10, 0);
            } else {
                BENCH.refuses(three, 10, 0);
                String fits = three.substring(0, three.indexOf("xyz".charAt(299 - had) + " : I"));
                BENCH.refuses(fits, 1, fits.length());
                BENCH.refuses(fits + "new", 10, 0);
                // What was refused is not there: the NAMES are new and the room is free.
                BENCH.takes(axioms(had, 300), 300 - had);
                BENCH.refuses("axiom x : Prop.", 10, 0);
            }
        }
    }

    /** Axioms with SIZES of so much together, in steps of 199. */
    private static void fill(int sizes) {
        BENCH.renew();
        int number = 0;
        int left = sizes;
        while (left > 0) {
            int size = left >= 398 ? 199 : Math.min(left, 99);
            size -= size % 2 == 0 ? 1 : 0;
            BENCH.takes("axiom b" + number + " : " + Bench.repeat("Prop->", (size - 1) / 2) + "Prop.");
            number++;
            left -= size;
        }
        Bench.due("sizes", BENCH.kernel().count(3), sizes);
    }

    private static void sizesOfTypes() {
        for (int sizes = 29998; sizes <= 30002; sizes++) {
            fill(sizes - 5);
            String text = "axiom z : Prop -> Prop -> Prop.";
            if (sizes <= 30000) {
                BENCH.takes(text);
                Bench.due("sizes", BENCH.kernel().count(3), sizes);
            } else {
                BENCH.refuses(text, 10, 0);
            }
        }
        // The type is judged first, check and eval keep nothing.
        BENCH.refuses("axiom z : Prop -> Prop Prop -> Prop.", 5, 0);
        BENCH.refuses("axiom z : Prop -> none -> Prop.", 2, 18);
        BENCH.takes("check Prop -> Prop -> Prop : Type 0. eval Prop -> Prop -> Prop.", 2);
        BENCH.takes("axiom z : Prop -> Prop.");
        Bench.due("sizes", BENCH.kernel().count(3), 30000);
        BENCH.refuses("axiom y : Prop.", 10, 0);
        BENCH.kernel().reset();
        Bench.due("sizes behind reset", BENCH.kernel().count(3), 0);
        BENCH.takes("axiom y : Prop.");
    }

    private static void sizesOfValues() {
        for (int sizes = 29998; sizes <= 30002; sizes++) {
            for (String word : new String[] {"def", "theorem"}) {
                fill(sizes - 6);
                String text = word + " z : Type 0 := Prop -> Prop -> Prop.";
                if (sizes <= 30000) {
                    BENCH.takes(text);
                    Bench.due("sizes", BENCH.kernel().count(3), sizes);
                } else {
                    BENCH.refuses(text, 10, 0);
                    BENCH.refuses(word + " z : Prop := Prop -> Prop -> Prop.", 4, 0);
                }
            }
        }
    }

    private static void sizesOfFamilies() {
        // Each has its type, the types of CONSTRUCTORS, REC's type and the RULES.
        sizesOf("inductive z : Prop := { }.", 10);
        sizesOf("inductive z : Type 0 := { | zero : z }.", 24);
        sizesOf("inductive z : Type 0 := { | zero : z | suc : z -> z }.", 86);
        sizesOf("inductive z (p q : Prop) : Prop := { | zl : p -> z p q | zr : q -> z p q }.", 154);
    }

    private static void sizesOf(String family, int size) {
        for (int sizes = 29999; sizes <= 30001; sizes++) {
            fill(sizes - size);
            if (sizes <= 30000) {
                BENCH.takes(family);
                Bench.due("sizes", BENCH.kernel().count(3), sizes);
            } else {
                BENCH.refuses(family, 10, 0);
            }
        }
    }

    /** A family that is refused at its last test leaves nothing: not its NAMES, its SIZES or its REC. */
    private static void refusedFamilies() {
        fill(29999 - 85);
        BENCH.refuses("inductive z : Type 0 := { | zero : z | suc : z -> z | more : z }.", 10, 0);
        BENCH.refuses("eval rec z Prop.", 2, 9);
        BENCH.refuses("eval suc zero.", 2, 5);
        BENCH.takes("inductive z : Type 0 := { | zero : z | suc : z -> z }.");
        BENCH.evaluates("rec z Type 0 (fun (x : z) => z) zero (fun (x y : z) => suc (suc y)) (suc zero)", "suc (suc zero)");
    }
}
