import java.util.NoSuchElementException;

/** Promises 7 to 10: constant, show, showRec and out. */
public final class ShowTest {
    private static final Bench BENCH = new Bench();

    public static void main(String[] args) {
        prepare();
        constants();
        shows();
        showsRec();
        writesTerms();
        outEnds();
        outIsCut();
        manyVariables();
        Bench.finish(ShowTest.class);
    }

    private static void prepare() {
        BENCH.takes("axiom a : Prop -> Prop. def d : Prop -> Prop := fun (x : Prop) => a (a x). "
                + "theorem t : Type 0 := Prop.", 3);
        BENCH.takes("inductive nat : Type 0 := { | O : nat | S : nat -> nat }.");
        BENCH.takes("inductive vec (A : Type 0) : nat -> Type 0 := { | vnil : vec A O | "
                + "vcons : forall (n : nat), A -> vec A n -> vec A (S n) }.");
        BENCH.takes("inductive or (A B : Prop) : Prop := { | left : A -> or A B | right : B -> or A B }.");
    }

    private static void constants() {
        BENCH.tells(0, 0, 3, 0, 0, 0, 0, 0, 0);
        BENCH.tells(1, 1, 3, 7, 0, 0, 0, 0, 0);
        BENCH.tells(2, 2, 1, 1, 0, 0, 0, 0, 0);
        BENCH.tells(3, 3, 1, 0, 0, 0, 2, 0, 0);
        BENCH.tells(4, 4, 1, 0, 0, 0, 0, 0, 0);
        BENCH.tells(5, 4, 3, 0, 0, 0, 0, 1, 1);
        BENCH.tells(6, 3, 5, 0, 1, 1, 2, 0, 0);
        BENCH.tells(7, 4, 7, 0, 0, 0, 0, 0, 0);
        BENCH.tells(8, 4, 19, 0, 0, 0, 0, 3, 1);
        FamilyKernel kernel = BENCH.kernel();
        Bench.throwsIt("constant(12, 0)", NoSuchElementException.class, () -> kernel.constant(12, 0));
        Bench.throwsIt("constant(-1, 0)", NoSuchElementException.class, () -> kernel.constant(-1, 0));
        Bench.throwsIt("constant(12, 8)", NoSuchElementException.class, () -> kernel.constant(12, 8));
        Bench.throwsIt("constant(0, 8)", IllegalArgumentException.class, () -> kernel.constant(0, 8));
        Bench.throwsIt("constant(0, -1)", IllegalArgumentException.class, () -> kernel.constant(0, -1));
        Bench.throwsIt("constant(most, least)", NoSuchElementException.class,
                () -> kernel.constant(Integer.MAX_VALUE, Integer.MIN_VALUE));
    }

    private static void shows() {
        FamilyKernel kernel = BENCH.kernel();
        BENCH.shows(0, 0, "a");
        BENCH.shows(0, 1, "Prop -> Prop");
        BENCH.shows(1, 2, "fun (x0 : Prop) => a (a x0)");
        BENCH.shows(2, 2, "Prop");
        BENCH.shows(6, 0, "vec");
        BENCH.shows(6, 1, "Type 0 -> nat -> Type 0");
        BENCH.shows(8, 0, "vcons");
        BENCH.shows(8, 1, "forall (x0 : Type 0), forall (x1 : nat), x0 -> vec x0 x1 -> vec x0 (S x1)");
        for (int constant : new int[] {0, 3, 4, 12, -1}) {
            Bench.throwsIt("show(" + constant + ", 2)", NoSuchElementException.class, () -> kernel.show(constant, 2));
        }
        Bench.throwsIt("show(12, 0)", NoSuchElementException.class, () -> kernel.show(12, 0));
        Bench.throwsIt("show(12, 3)", NoSuchElementException.class, () -> kernel.show(12, 3));
        Bench.throwsIt("show(0, 3)", IllegalArgumentException.class, () -> kernel.show(0, 3));
        Bench.throwsIt("show(0, -1)", IllegalArgumentException.class, () -> kernel.show(0, -1));
        Bench.due("out behind what was thrown", BENCH.out().length(), 73);
    }

    private static void showsRec() {
        FamilyKernel kernel = BENCH.kernel();
        BENCH.showsRec(3, 2, "forall (x0 : nat -> Type 1), x0 O -> (forall (x2 : nat), x0 x2 -> x0 (S x2)) -> "
                + "forall (x3 : nat), x0 x3");
        BENCH.showsRec(9, 0, "forall (x0 : Prop), forall (x1 : Prop), forall (x2 : or x0 x1 -> Prop), "
                + "(forall (x3 : x0), x2 (left x0 x1 x3)) -> (forall (x4 : x1), x2 (right x0 x1 x4)) -> "
                + "forall (x5 : or x0 x1), x2 x5");
        String before = BENCH.out();
        for (int[] call : new int[][] {{9, 1}, {9, 100}, {3, -1}, {3, 101}, {0, 0}, {4, 0}, {12, 0}, {-1, 0}}) {
            Bench.throwsIt("showRec(" + call[0] + ", " + call[1] + ")", NoSuchElementException.class,
                    () -> kernel.showRec(call[0], call[1]));
        }
        Bench.due("out behind what was thrown", BENCH.out(), before);
        BENCH.showsRec(3, 100, "forall (x0 : nat -> Type 99), x0 O -> (forall (x2 : nat), x0 x2 -> x0 (S x2)) -> "
                + "forall (x3 : nat), x0 x3");
    }

    /** Each text is the type of an axiom and is shown as it was written. */
    private static void writesTerms() {
        BENCH.takes("axiom p : forall (A : Type 0), A -> Prop. axiom q : Type 1 -> Type 1 -> Prop. "
                + "axiom r : forall (A : Prop), A -> Prop.", 3);
        same("Prop");
        same("Type 0");
        same("Type 12");
        same("(Prop -> Prop) -> Prop");
        same("Prop -> Prop -> Prop");
        same("(forall (x0 : Prop), x0) -> Prop");
        same("forall (x0 : Prop -> Prop), x0 (x0 (a (forall (x1 : Prop), x1)))");
        same("Prop -> forall (x1 : Prop), x1 -> x1 -> x1");
        same("p (Prop -> Prop) a");
        same("p (Prop -> Prop) (fun (x0 : Prop) => x0)");
        same("p (Prop -> Prop) (fun (x0 : Prop) => a (d x0))");
        same("(fun (x0 : Prop) => x0) (forall (x0 : Prop), x0)");
        same("(let x0 : Type 0 := Prop in x0) -> let x1 : Type 0 := Prop in x1");
        same("let x0 : Type 0 := Prop in forall (x1 : x0), x1");
        same("q Type 0 (Type 0 -> Type 0) -> q Type 0 Type 0");
        same("p (nat -> nat) (rec nat Type 0 (fun (x0 : nat) => nat) O (fun (x0 : nat) => fun (x1 : nat) => S x1))");
        same("(rec nat Type 1 (fun (x0 : nat) => Type 0) nat (fun (x0 : nat) => fun (x1 : Type 0) => x1) O -> nat) -> nat");
        same("r (forall (x0 : nat -> Prop), x0 O -> (forall (x2 : nat), x0 x2 -> x0 (S x2)) -> forall (x3 : nat), x0 x3) "
                + "rec nat Prop");
    }

    private static int written;

    private static void same(String text) {
        written++;
        BENCH.takes("axiom w" + written + " : " + text + ".");
        BENCH.shows(BENCH.kernel().count(0) - 1, 1, text);
    }

    /** VARIABLES are told by how many are bound around them: 9, 10, 99, 100 and more. */
    private static void manyVariables() {
        BENCH.renew();
        BENCH.takes("axiom g : Prop -> Prop -> Prop.");
        String body = "x0";
        for (int i : new int[] {1, 9, 10, 11, 99, 100, 101, 109, 110, 119, 120}) {
            body = "g " + (body.equals("x0") ? body : "(" + body + ")") + " x" + i;
        }
        // Those that the body has not are written with ->.
        StringBuilder due = new StringBuilder();
        for (int i = 0; i < 121; i++) {
            due.append(body.matches(".*x" + i + "\\b.*") ? "forall (x" + i + " : Prop), " : "Prop -> ");
        }
        BENCH.takes("axiom many : " + names(121) + body + ".");
        BENCH.shows(1, 1, due + body);
    }

    private static String names(int number) {
        StringBuilder names = new StringBuilder("forall (");
        for (int i = 0; i < number; i++) {
            names.append("x").append(i).append(' ');
        }
        return names.append(": Prop), ").toString();
    }

    private static void outEnds() {
        FamilyKernel kernel = BENCH.kernel();
        kernel.show(3, 0);
        Bench.due("out(0)", kernel.out(0), (int) 'n');
        Bench.due("out(2)", kernel.out(2), (int) 't');
        Bench.throwsIt("out(3)", IndexOutOfBoundsException.class, () -> kernel.out(3));
        Bench.throwsIt("out(-1)", IndexOutOfBoundsException.class, () -> kernel.out(-1));
        Bench.throwsIt("out(most)", IndexOutOfBoundsException.class, () -> kernel.out(Integer.MAX_VALUE));
    }

    /** A normal form of 9 times 10 functions of 15 arguments, all with names of 31 signs. */
    private static void outIsCut() {
        BENCH.renew();
        String type = Bench.repeat("T", 31);
        String value = Bench.repeat("v", 31);
        String inner = Bench.repeat("g", 31);
        String outer = Bench.repeat("h", 31);
        BENCH.takes("axiom " + type + " : Type 0. axiom " + value + " : " + type + ".", 2);
        BENCH.takes("def F : Type 0 := " + Bench.repeat(type + " -> ", 15) + type + ".");
        BENCH.takes("def c : F := fun (" + Bench.repeat("a ", 15) + ": " + type + ") => " + value + ".");
        BENCH.takes("axiom " + inner + " : " + Bench.repeat("F -> ", 10) + "Prop.");
        BENCH.takes("def G : Prop := " + inner + Bench.repeat(" c", 10) + ".");
        BENCH.takes("axiom " + outer + " : " + Bench.repeat("Prop -> ", 9) + "Prop.");
        BENCH.takes("eval " + outer + Bench.repeat(" G", 9) + ".");
        StringBuilder function = new StringBuilder(" (");
        for (int i = 0; i < 15; i++) {
            function.append("fun (x").append(i).append(" : ").append(type).append(") => ");
        }
        function.append(value).append(")");
        String whole = outer + Bench.repeat(" (" + inner + Bench.repeat(function.toString(), 10) + ")", 9);
        Bench.due("the whole is longer", whole.length() > 65536, true);
        Bench.due("count(5)", BENCH.kernel().count(5), 65536);
        Bench.due("out", BENCH.out(), whole.substring(0, 65536));
        Bench.throwsIt("out(65536)", IndexOutOfBoundsException.class, () -> BENCH.kernel().out(65536));
    }
}
