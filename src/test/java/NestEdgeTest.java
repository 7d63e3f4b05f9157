/**
 * How many INFER (150), CONV (120), NORMAL FORM (120) and WHNF of a MAJOR (60) may be within one another: the most
 * and one less are accepted, one more is TOO GREAT. A chain of PI brings each form to the edge.
 */
public final class NestEdgeTest {
    private static final Bench BENCH = new Bench();

    public static void main(String[] args) {
        infersInTypes();
        infersInValues();
        infersInFamilies();
        convs();
        convsOfHeads();
        normals();
        majors();
        majorsBeginAnew();
        majorsOfEachWhnf();
        Bench.finish(NestEdgeTest.class);
    }

    private static void prelude() {
        BENCH.renew();
        BENCH.takes("axiom a : Prop. axiom n : Prop -> Prop. axiom g : Prop -> Prop -> Prop. "
                + "axiom P : (Prop -> Prop) -> Prop. def m : Prop := a. def M : Type 0 := Prop. "
                + "inductive one : Type 0 := { | it : one }. axiom Q : one -> Prop.", 8);
    }

    private static String chain(int length, String end) {
        return "forall (" + Bench.repeat("x ", length) + ": Prop), " + end;
    }

    private static void accepts(boolean fits, String text) {
        if (fits) {
            BENCH.takes(text);
        } else {
            BENCH.refuses(text, 10, 0);
        }
    }

    /** The deepest INFER of the type has so many around it within the type. */
    private static void infer(String type, int within) {
        int most = 149 - within;
        for (int length = most - 1; length <= most + 1; length++) {
            prelude();
            accepts(length <= most, "axiom t : " + chain(length, type) + ".");
        }
    }

    private static void infersInTypes() {
        infer("Prop", 0);
        infer("a", 0);
        infer("x", 0);
        infer("Prop -> Prop", 1);
        infer("a -> a -> a", 2);
        infer("(a -> a) -> a", 2);
        infer("n a", 1);
        infer("g a a", 1);
        infer("n (n a)", 2);
        infer("g (n a) a", 2);
        infer("g a (n a)", 2);
        infer("(fun (z : Prop) => z) a", 2);
        infer("(fun (z : Prop) => n z) a", 3);
        infer("(fun (z : Prop -> Prop) => a) n", 3);
        infer("let z : Prop := a in z", 1);
        infer("let z : Prop := n a in z", 2);
        infer("let z : Prop := a in n a", 2);
        infer("let z : Prop -> Prop := n in a", 2);
        infer("rec one Type 1 (fun (z : one) => Type 0) Prop it", 2);
        infer("Q (rec one Type 0 (fun (z : one) => one) it it)", 3);
    }

    /** The value of a def and of a check, and what eval is of, begin at 1 as types do. */
    private static void infersInValues() {
        for (int length = 147; length <= 149; length++) {
            prelude();
            accepts(length <= 148, "check " + chain(length, "n a") + " : Prop.");
            accepts(length <= 148, "def v : Prop := " + chain(length, "n a") + ".");
            accepts(length <= 148, "theorem w : Prop := " + chain(length, "n a") + ".");
            BENCH.refuses("check Prop : " + chain(length, "n a") + ".", length <= 148 ? 4 : 10, 0);
            accepts(length <= 148, "check let z : Prop := " + chain(length - 1, "n a") + " in z : Prop.");
        }
    }

    /** The PI of PARAMETERS stand around those of INDICES and of ARGUMENTS. */
    private static void infersInFamilies() {
        for (int length = 145; length <= 151; length++) {
            prelude();
            accepts(length <= 149, "inductive I : " + chain(length, "Prop") + " := { }.");
            accepts(length <= 147, "inductive J (p q : Prop) : " + chain(length, "Prop") + " := { }.");
            accepts(length <= 148, "inductive K : Prop := { | k : (" + chain(length, "a") + ") -> K }.");
            accepts(length <= 146, "inductive L (p q : Prop) : Prop := { | l : (" + chain(length, "a") + ") -> L p q }.");
            // What comes before it is judged before it: here the second ARGUMENT, whose SORTOF begins at 1 again.
            BENCH.refuses("inductive R (p q : Prop) : Prop := { | r : (" + chain(length, "a") + ") -> it -> R p q }.",
                    length <= 149 ? 6 : 10, 0);
        }
    }

    /** CONV of left and right (which differ until they are opened) has so many within one another. */
    private static void conv(String left, String right, int within) {
        int most = 119 - within;
        for (int length = most - 1; length <= most + 1; length++) {
            prelude();
            BENCH.takes("axiom l : " + chain(length, left) + ". axiom r : " + chain(length, right) + ".", 2);
            accepts(length <= most, "check l : " + chain(length, right) + ".");
            accepts(length <= most, "check r : " + chain(length, left) + ".");
        }
    }

    private static void convs() {
        conv("m", "a", 0);
        conv("m -> a", "a -> a", 1);
        conv("a -> m", "a -> a", 1);
        conv("a -> m -> a", "a -> a -> a", 2);
        conv("(a -> m) -> a", "(a -> a) -> a", 2);
        conv("P (fun (z : Prop) => m)", "P (fun (z : Prop) => a)", 2);
        conv("P (fun (z : M) => a)", "P (fun (z : Prop) => a)", 2);
        // The LAM rule: one CONV for the argument of P, one for what is applied.
        conv("P (fun (z : Prop) => n z)", "P n", 2);
        conv("P (fun (z : Prop) => g m z)", "P (g a)", 3);
        conv("P (fun (z : Prop) => g z m)", "P (fun (z : Prop) => g z a)", 3);
    }

    private static void convsOfHeads() {
        conv("n m", "n a", 1);
        conv("g m a", "g a a", 1);
        conv("g a m", "g a a", 1);
        conv("n (n m)", "n (n a)", 2);
        conv("g (n m) m", "g (n a) a", 2);
        // CONV of what is the same goes no deeper, and a step does not either.
        conv("(fun (z : Prop) => n (n z)) a", "n (n a)", 0);
        conv("let z : Prop := a in n z", "n a", 0);
        conv("g (n (n (n a))) m", "g (n (n (n a))) a", 1);
    }

    /** The normal form of the TERM has so many within one another. */
    private static void normal(String term, int within) {
        int most = 119 - within;
        for (int length = most - 1; length <= most + 1; length++) {
            prelude();
            accepts(length <= most, "eval " + chain(length, term) + ".");
        }
    }

    private static void normals() {
        normal("a", 0);
        normal("m", 0);
        normal("Prop", 0);
        normal("a -> a", 1);
        normal("n a", 1);
        normal("g a a", 1);
        normal("g m (n m)", 2);
        normal("g (n m) m", 2);
        normal("(n a -> a) -> a", 3);
        normal("P (fun (z : Prop) => n z)", 3);
        normal("P (fun (z : Prop) => a)", 2);
        normal("(fun (z : Prop) => n z) a", 1);
        normal("(fun (z : Prop) => a) (n (n (n a)))", 0);
        normal("let z : Prop := n a in z", 1);
        // Where nothing is around, 120 applications within one another are too many, 119 are not.
        BENCH.renew();
        BENCH.takes("inductive nat : Type 0 := { | O : nat | S : nat -> nat }. "
                + "def ten : nat -> nat := fun (x : nat) => S (S (S (S (S (S (S (S (S (S x))))))))).", 2);
        BENCH.takes("eval " + Bench.repeat("ten (", 11) + Bench.repeat("S (", 8) + "O" + Bench.repeat(")", 19) + ".");
        BENCH.takes("eval " + Bench.repeat("ten (", 11) + Bench.repeat("S (", 9) + "O" + Bench.repeat(")", 20) + ".");
        Bench.due("119 S", BENCH.out(), Bench.repeat("S (", 118) + "S O" + Bench.repeat(")", 118));
        BENCH.refuses("eval " + Bench.repeat("ten (", 12) + "O" + Bench.repeat(")", 12) + ".", 10, 0);
    }

    private static String repeated(String function, int times, String inner) {
        return times == 0 ? inner : Bench.repeat("(" + function + " ", times) + inner + Bench.repeat(")", times);
    }

    private static void majors() {
        for (int deep = 59; deep <= 61; deep++) {
            prelude();
            BENCH.takes("axiom some : one. def r : one -> one := rec one Type 0 (fun (x : one) => one) it.", 2);
            // The innermost MAJOR is it, or what is no CONSTRUCTOR.
            accepts(deep <= 60, "eval " + repeated("r", deep, "it") + ".");
            if (deep <= 60) {
                Bench.due("r .. r it", BENCH.out(), "it");
            }
            String stuck = repeated("r", deep, "some");
            BENCH.takes("axiom q : Q " + stuck + ".");
            BENCH.refuses("check q : Q it.", deep <= 60 ? 4 : 10, 0);
            accepts(deep <= 60, "check q : Q ((fun (x : one) => x) " + stuck + ").");
        }
    }

    private static void majorsBeginAnew() {
        prelude();
        BENCH.takes("axiom some : one. axiom two : one -> one -> one. def r : one -> one := rec one Type 0 (fun (x : one) => one) it. "
                + "def r' : one -> one := fun (x : one) => rec one Type 0 (fun (x : one) => one) it x.", 4);
        // Not within a MAJOR: side by side, in what is behind it, in what a RULE gives, in another WHNF.
        String sixty = repeated("r", 60, "it");
        BENCH.takes("eval two " + sixty + " " + sixty + ".");
        BENCH.takes("eval two it " + repeated("r'", 60, "it") + ".");
        BENCH.takes("eval rec one Type 0 (fun (x : one) => one) " + sixty + " it.");
        BENCH.takes("eval rec one Type 0 (fun (x : one) => one) " + sixty + " " + repeated("r", 59, "it") + ".");
        BENCH.refuses("eval rec one Type 0 (fun (x : one) => one) it " + sixty + ".", 10, 0);
        BENCH.takes("eval rec one Type 0 (fun (x : one) => one -> one) (fun (y : one) => y) it " + sixty + ".");
        BENCH.takes("axiom q : Q (two " + sixty + " " + sixty + "). check q : Q (two it it).", 2);
    }

    /** Wherever a WHNF is asked, it begins with no MAJOR around it. */
    private static void majorsOfEachWhnf() {
        for (int deep = 59; deep <= 61; deep++) {
            prelude();
            BENCH.takes("def r : one -> one := rec one Type 0 (fun (x : one) => one) it. "
                    + "def U : one -> Type 2 := rec one Type 3 (fun (x : one) => Type 2) (Type 1). "
                    + "def V : one -> Type 1 := rec one Type 2 (fun (x : one) => Type 1) (one -> Type 0).", 3);
            String inner = repeated("r", deep - 1, "it");
            // SORTOF: the type of u is a SORT behind so many MAJORS.
            BENCH.takes("axiom u : U " + inner + ".");
            accepts(deep <= 60, "axiom w : u.");
            // A function's type, which becomes a PI.
            BENCH.takes("axiom v : V " + inner + ".");
            accepts(deep <= 60, "check v it : Type 0.");
            // CONV, on either side.
            BENCH.takes("axiom l : Q " + repeated("r", deep, "it") + ". axiom k : Q it.", 2);
            accepts(deep <= 60, "check l : Q it.");
            accepts(deep <= 60, "check k : Q " + repeated("r", deep, "it") + ".");
            // NORMAL FORM, also below PI and LAM and of what is behind a head.
            accepts(deep <= 60, "eval fun (x : Q it) => Q " + repeated("r", deep, "it") + ".");
        }
    }
}
