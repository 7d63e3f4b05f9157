/**
 * SIZE 3,000 and DEPTH 200 of each TERM, wherever it is made: one before the bound, at it and one behind it.
 *
 * <p>A TERM without let has an odd SIZE, so that the even ones here have a let within.
 */
public final class SizeEdgeTest {
    private static final Bench BENCH = new Bench();

    public static void main(String[] args) {
        sizeInText();
        sizeOfParameters();
        sizeByStep();
        sizeByOpen();
        sizeOfInferredType();
        sizeInConversion();
        sizeOfNormalForm();
        sizeOfMember();
        depthInText();
        depthByStep();
        depthByOpen();
        depthOfInferredType();
        sizeOfRecursor();
        sizeOfRule();
        depthOfRecursor();
        Bench.finish(SizeEdgeTest.class);
    }

    private static void prelude() {
        BENCH.renew();
        BENCH.takes("axiom a : Prop. axiom n : Prop -> Prop. axiom g : Prop -> Prop -> Prop. "
                + "axiom T : Prop -> Prop -> Prop -> Prop.", 4);
    }

    /** A Prop of that SIZE. */
    private static String sized(int size) {
        if (size % 2 == 0) {
            return "(let y : Prop := a in " + sized(size - 3) + ")";
        }
        if (size == 1) {
            return "a";
        }
        if (size == 3) {
            return "(n a)";
        }
        int half = (size - 3) / 2;
        int first = half % 2 == 1 ? half : half + 1;
        return "(g " + sized(first) + " " + sized(size - 3 - first) + ")";
    }

    /** A Prop that has x thrice: its SIZE is 3 times that of x and so many more (an even number above 2). */
    private static String thrice(int more) {
        return more == 4 ? "T x x x" : "n (" + thrice(more - 2) + ")";
    }

    /** The SIZE of the x with which thrice comes to the SIZE; it is even if the SIZE is. */
    private static int third(int size) {
        int third = size / 3;
        while ((size - 3 * third) % 2 != 0 || size - 3 * third < 4) {
            third--;
        }
        return third;
    }

    private static String thriceFor(int size) {
        return thrice(size - 3 * third(size));
    }

    private static void bounds(int size, String text) {
        if (size <= 3000) {
            BENCH.fits(text);
        } else {
            BENCH.isTooGreat(text);
        }
    }

    private static void sizeInText() {
        prelude();
        for (int size = 2998; size <= 3002; size++) {
            bounds(size, "eval n " + sized(size - 2));
            bounds(size, "eval " + sized(size - 1198) + Bench.repeat(" a", 599));
            bounds(size, "eval a -> " + sized(size - 2));
            bounds(size, "eval " + sized(size - 2) + " -> a");
            bounds(size, "eval fun (x : Prop) => " + sized(size - 2));
            bounds(size, "eval fun (x : " + sized(size - 2) + ") => a");
            bounds(size, "eval forall (x : Prop), " + sized(size - 2));
            bounds(size, "eval forall (x : " + sized(size - 2) + "), a");
            bounds(size, "eval let x : Prop := a in " + sized(size - 3));
            bounds(size, "eval let x : Prop := " + sized(size - 3) + " in a");
            bounds(size, "eval let x : " + sized(size - 3) + " := a in a");
            bounds(size, "eval fun (x y : Prop) (z : Prop) => " + sized(size - 6));
            bounds(size, "eval forall (x y : Prop) (z : Prop), " + sized(size - 6));
            bounds(size, "eval (" + sized(size - 4) + " -> a) a");
            bounds(size, "eval (n " + sized(size - 4) + " -> a)");
            bounds(size, "axiom b : n " + sized(size - 2));
            bounds(size, "def b : Prop := n " + sized(size - 2));
            bounds(size, "check n " + sized(size - 2));
            bounds(size, "check a : n " + sized(size - 2));
        }
        // Each ATOM is judged when the one before has made its TERM.
        BENCH.refuses("eval n " + sized(2997) + " none", 2, 8 + sized(2997).length());
        BENCH.refuses("eval n " + sized(2998) + " none", 2, 8 + sized(2998).length());
        BENCH.refuses("eval n " + sized(2999) + " none", 10, 0);
        BENCH.refuses("eval n " + sized(2999) + " (", 10, 0);
        BENCH.refuses("eval n " + sized(2999), 10, 0);
        BENCH.refuses("eval n (" + sized(2999), 1, 8 + sized(2999).length());
        BENCH.refuses("eval n (" + sized(2999) + ")", 10, 0);
        BENCH.refuses("eval " + sized(2999) + " -> none", 2, 9 + sized(2999).length());
        BENCH.refuses("  eval " + sized(2999) + " -> a", 10, 2);
        BENCH.takes("eval n " + sized(2995) + ".");
        BENCH.takes("eval n " + sized(2997) + ".");
        BENCH.takes("eval n " + sized(2998) + ".");
    }

    private static void sizeOfParameters() {
        prelude();
        for (int size = 2999; size <= 3001; size++) {
            String text = "inductive I (x : " + sized(size - 2) + ") : Prop :=";
            BENCH.fits(text);
            bounds(size, text + " {");
            BENCH.refuses(text + " none", 1, text.length() + 1);
            text = "inductive I (x y : Prop) : " + sized(size - 4) + " :=";
            BENCH.fits(text);
            bounds(size, text + " {");
        }
    }

    /** The DECLARATION is accepted up to a SIZE of 3,000, and behind that TOO GREAT. */
    private static void accepts(int size, String text) {
        if (size <= 3000) {
            BENCH.takes(text);
        } else {
            BENCH.refuses(text, 10, 0);
        }
    }

    private static void sizeByStep() {
        prelude();
        BENCH.takes("def k : Prop -> Prop := fun (x : Prop) => a. inductive one : Type 0 := { | it : one }.", 2);
        for (int size = 2997; size <= 3003; size++) {
            // LAM before an argument.
            accepts(size, "eval (fun (x : Prop) => " + thriceFor(size) + ") " + sized(third(size)) + ".");
            // A CONSTANT by def: k with its argument becomes a LAM of SIZE 3 with it.
            accepts(size, "eval k " + sized(size - 4) + ".");
            // LET, with an argument behind it: what INFER opens alone keeps the bound.
            accepts(size, "eval (let x : Prop := " + sized(third(size - 4)) + " in fun (z : Prop) => " + thriceFor(size - 4) + ") a.");
            // REC: the RULE of it has a SIZE of 9, behind it come a function of SIZE 3 and what it gives.
            accepts(size, "eval rec one Type 1 (fun (x : one) => Type 0) (n " + sized(size - 18) + " -> Prop) it.");
        }
        // The whole TERM counts, with what stands behind the redex.
        BENCH.takes("eval (fun (x : Prop) => T x x) " + sized(999) + " " + sized(997) + ".");
        BENCH.takes("eval (fun (x : Prop) => T x x) " + sized(999) + " " + sized(998) + ".");
        BENCH.refuses("eval (fun (x : Prop) => T x x) " + sized(999) + " " + sized(999) + ".", 10, 0);
    }

    private static void sizeByOpen() {
        prelude();
        for (int size = 2999; size <= 3001; size++) {
            // The type of a function's value: the PI is OPENED with the argument.
            BENCH.takes("axiom o" + size + " : forall (x : Prop), " + thriceFor(size) + ".");
            accepts(size, "eval o" + size + " " + sized(third(size)) + ".");
            // The body of a let, OPENED with its value.
            accepts(size, "check let x : Prop := " + sized(third(size)) + " in " + thriceFor(size) + " : Prop.");
        }
    }

    private static void sizeOfInferredType() {
        prelude();
        for (int size = 2999; size <= 3001; size++) {
            int inner = size - 2;
            BENCH.takes("axiom o" + size + " : forall (x : Prop), " + thriceFor(inner) + ".");
            BENCH.takes("eval o" + size + " " + sized(third(inner)) + ".");
            accepts(size, "eval fun (z : Prop) => o" + size + " " + sized(third(inner)) + ".");
        }
    }

    private static void sizeInConversion() {
        prelude();
        BENCH.takes("axiom P : (Prop -> Prop) -> Prop.");
        for (int size = 2999; size <= 3001; size++) {
            // Its WHNF is g with one argument; the LAM rule puts a VARIABLE behind it.
            int inner = size - 4;
            String function = "(fun (x : Prop) => g (" + thriceFor(inner) + ")) " + sized(third(inner));
            BENCH.takes("axiom l" + size + " : P (fun (z : Prop) => " + function + " z).");
            BENCH.takes("axiom r" + size + " : P (" + function + ").");
            accepts(size, "check l" + size + " : P (" + function + ").");
            accepts(size, "check r" + size + " : P (fun (z : Prop) => " + function + " z).");
        }
    }

    private static void sizeOfNormalForm() {
        prelude();
        // 999 come from 331 thrice; a normal form has an odd SIZE.
        String reduced = "((fun (x : Prop) => " + thrice(6) + ") " + sized(331) + ")";
        for (int size = 2997; size <= 3003; size += 2) {
            accepts(size, "eval g " + reduced + " " + sized(size - 1002) + ".");
            accepts(size, "eval g " + sized(size - 1002) + " " + reduced + ".");
            accepts(size, "eval " + reduced + " -> " + sized(size - 1000) + ".");
            accepts(size, "eval forall (z : " + sized(size - 1000) + "), " + reduced + ".");
            accepts(size, "eval fun (z : " + reduced + ") => " + sized(size - 1000) + ".");
            accepts(size, "eval T a (n (n " + reduced + ")) " + sized(size - 1008) + ".");
        }
    }

    /** PI PARAMETERS TERM of a CONSTRUCTOR: each alone keeps the bound. */
    private static void sizeOfMember() {
        prelude();
        // Each DECLARATION has a REC that is TOO GREAT: the bound shows where it comes before another FAULT.
        for (int size = 2999; size <= 3001; size++) {
            String type = sized(1500);
            // Behind the test of the end SORTOF of the whole fails with 5, if it can be made.
            String text = "inductive I (x : " + type + ") : Prop -> Prop := { | c : I x (a " + sized(size - 1507) + ") }.";
            BENCH.refuses(text, size <= 3000 ? 5 : 10, 0);
        }
    }

    private static void depthInText() {
        prelude();
        for (int depth = 199; depth <= 201; depth++) {
            String names = Bench.repeat("x ", depth - 2) + ": Prop)";
            boundsDepth(depth, "eval fun (x " + names + " => a");
            boundsDepth(depth, "eval forall (x " + names + ", a");
            boundsDepth(depth, "eval a -> forall (" + names + ", a");
            boundsDepth(depth, "eval (forall (" + names + ", a) -> a");
            boundsDepth(depth, "eval fun (z : forall (" + names + ", a) => a");
            boundsDepth(depth, "eval let z : Prop := a in forall (" + names + ", a");
            boundsDepth(depth, "eval let z : Prop := forall (" + names + ", a in a");
            boundsDepth(depth, "eval let z : forall (" + names + ", a := a in a");
            boundsDepth(depth, "eval n (forall (" + names + ", a)");
            boundsDepth(depth, "eval g (forall (" + names + ", a) a");
            boundsDepth(depth, "eval g a (forall (" + names + ", a)");
            boundsDepth(depth, "eval fun (x " + names + " => n");
            boundsDepth(depth, "eval fun (" + names + " => n a");
            boundsDepth(depth, "eval fun (" + names + " => T a a a");
            boundsDepth(depth, "eval (fun (x " + names + " => a) a a a");
            String family = "inductive I (x " + names + " : Prop :=";
            BENCH.fits(family);
            boundsDepth(depth, family + " {");
        }
        // A function is as deep as it is, its argument one deeper.
        BENCH.fits("eval (fun (" + Bench.repeat("x ", 199) + ": Prop) => a) a");
        BENCH.isTooGreat("eval n (fun (" + Bench.repeat("x ", 199) + ": Prop) => a)");
    }

    private static void boundsDepth(int depth, String text) {
        bounds(depth <= 200 ? 3000 : 3001, text);
    }

    private static void natural() {
        BENCH.renew();
        BENCH.takes("inductive nat : Type 0 := { | O : nat | S : nat -> nat }. axiom P : nat -> Prop.", 2);
    }

    private static String successors(int number, String inner) {
        return number == 0 ? inner : Bench.repeat("(S ", number) + inner + Bench.repeat(")", number);
    }

    private static void depthByStep() {
        natural();
        BENCH.takes("def D : nat -> Type 0 := fun (x : nat) => (fun (y : nat) => Prop) " + successors(99, "x") + ".");
        // The step gives (fun y => Prop) (S .. S x), 100 deeper than x.
        for (int depth = 199; depth <= 201; depth++) {
            BENCH.takes("axiom p" + depth + " : D " + successors(depth - 101, "O") + ".");
            String text = "check p" + depth + " : Prop.";
            if (depth <= 200) {
                BENCH.takes(text);
            } else {
                BENCH.refuses(text, 10, 0);
            }
        }
    }

    private static void depthByOpen() {
        natural();
        BENCH.takes("axiom o : forall (x : nat), P " + successors(99, "x") + ".");
        BENCH.takes("eval o " + successors(98, "O") + ".");
        BENCH.takes("eval o " + successors(99, "O") + ".");
        BENCH.refuses("eval o " + successors(100, "O") + ".", 10, 0);
    }

    private static void depthOfInferredType() {
        natural();
        BENCH.takes("axiom o : forall (x : nat), P " + successors(99, "x") + ".");
        BENCH.takes("eval fun (z : nat) => o " + successors(97, "O") + ".");
        BENCH.takes("eval fun (z : nat) => o " + successors(98, "O") + ".");
        BENCH.takes("eval o " + successors(99, "O") + ".");
        BENCH.refuses("eval fun (z : nat) => o " + successors(99, "O") + ".", 10, 0);
    }

    /** Without CONSTRUCTORS there is no RULE: REC's type is twice the INDEX, the PARAMETER once and 22 more. */
    private static void sizeOfRecursor() {
        for (int size = 2997; size <= 3003; size++) {
            prelude();
            int before = BENCH.kernel().count(3);
            int index = 1485;
            int parameter = size - 22 - 2 * index;
            accepts(size, "inductive E (p : " + sized(parameter) + ") : " + sized(index) + " -> Prop := { }.");
            if (size <= 3000) {
                int family = parameter + index + 3;
                Bench.due("SIZE of REC's type", BENCH.kernel().count(3) - before - family, size);
            }
        }
    }

    /** With a PARAMETER of SIZE p and an ARGUMENT of SIZE b the RULE has p + 2 b + 20, REC's type p + b + 23. */
    private static void sizeOfRule() {
        for (int size = 2997; size <= 3003; size++) {
            prelude();
            int before = BENCH.kernel().count(3);
            int argument = 1485;
            int parameter = size - 20 - 2 * argument;
            accepts(size, "inductive R (p : " + sized(parameter) + ") : Prop := { | r : " + sized(argument) + " -> R p }.");
            if (size <= 3000) {
                int family = parameter + 2;
                int member = parameter + argument + 5;
                int recursor = parameter + argument + 23;
                Bench.due("SIZE of the RULE", BENCH.kernel().count(3) - before - family - member - recursor, size);
            }
        }
    }

    private static void depthOfRecursor() {
        // REC's type: C, the CONSTRUCTOR, its 100 ARGUMENTS, the hypothesis, its PI, and C (a xs) with 3.
        for (int depth = 199; depth <= 201; depth++) {
            BENCH.renew();
            String text = "inductive J : Prop := { | j : (forall (" + Bench.repeat("x ", depth - 106) + ": Prop), J) -> "
                    + "forall (" + Bench.repeat("x ", 99) + ": Prop), J }.";
            if (depth <= 200) {
                BENCH.takes(text);
            } else {
                BENCH.refuses(text, 10, 0);
            }
        }
    }
}
