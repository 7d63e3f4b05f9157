/** INFER, WHNF, CONV and NORMAL FORM: what they accept, what they refuse and what they cost. */
public final class TypingTest {
    private static final Bench BENCH = new Bench();

    public static void main(String[] args) {
        sorts();
        functions();
        products();
        lets();
        conversion();
        recursors();
        unfolding();
        normalForms();
        costs();
        Bench.finish(TypingTest.class);
    }

    private static void prelude() {
        BENCH.renew();
        BENCH.costs("inductive nat : Type 0 := { | O : nat | S : nat -> nat }.", 3);
        BENCH.costs("def add : nat -> nat -> nat := fun (a b : nat) => rec nat Type 0 "
                + "(fun (x : nat) => nat) b (fun (x : nat) (y : nat) => S y) a.", 214);
        BENCH.costs("inductive eq (A : Type 0) (a : A) : A -> Prop := { | refl : eq A a a }.", 37);
    }

    private static void sorts() {
        BENCH.renew();
        BENCH.takes("check Prop : Type 0. check Type 0 : Type 1. check Type 97 : Type 98.", 3);
        BENCH.refuses("check Type 98 : Type 99.", 7, 0);
        BENCH.refuses("check Prop : Prop.", 4, 0);
        BENCH.refuses("check Prop : Type 1.", 4, 0);
        BENCH.refuses("check Type 99 : Prop.", 7, 0);
        BENCH.refuses("check Prop : Type 99.", 7, 0);
        BENCH.refuses("axiom a : Type 99.", 7, 0);
        BENCH.takes("axiom a : Type 98.");
        BENCH.refuses("eval Type 99.", 7, 0);
    }

    private static void functions() {
        prelude();
        BENCH.refuses("check O O : nat.", 5, 0);
        BENCH.refuses("check S nat : nat.", 4, 0);
        BENCH.refuses("check S : nat.", 4, 0);
        BENCH.refuses("check fun (x : O) => x : nat.", 6, 0);
        BENCH.refuses("axiom a : O.", 6, 0);
        BENCH.refuses("check O : O.", 6, 0);
        BENCH.refuses("def a : nat := Prop.", 4, 0);
        BENCH.refuses("theorem a : nat := nat.", 4, 0);
        // The type is judged before the value.
        BENCH.refuses("check O O : O.", 6, 0);
        BENCH.takes("check fun (A : Type 0) (x : A) => x : forall (A : Type 0), A -> A.");
        BENCH.takes("check (fun (A : Type 0) (x : A) => x) nat O : nat.");
        BENCH.takes("check (fun (A : Type 0) (f : A -> A) (x : A) => f (f x)) nat S O : nat.");
        BENCH.takes("def F : Type 1 := Type 0 -> Type 0. axiom G : F. check G nat : Type 0.", 3);
    }

    private static void products() {
        BENCH.renew();
        BENCH.takes("check forall (A : Type 5), A : Type 6.");
        BENCH.takes("check forall (A : Type 5), Prop : Type 6.");
        BENCH.takes("check Prop -> Type 5 : Type 6.");
        BENCH.takes("check forall (A : Prop), A -> A : Prop.");
        BENCH.takes("check forall (A : Type 9) (p : Prop), p : Prop.");
        BENCH.refuses("check forall (A : Prop), A -> A : Type 0.", 4, 0);
        BENCH.refuses("check forall (A : Prop) (x : A), x : Prop.", 6, 0);
    }

    private static void lets() {
        prelude();
        BENCH.costs("eval let n : nat := S O in S n.", 17);
        BENCH.takes("check let A : Type 0 := nat in (fun (x : A) => x) O : nat.");
        BENCH.refuses("check let n : nat := nat in n : nat.", 4, 0);
        BENCH.refuses("check let n : O := O in n : nat.", 6, 0);
        BENCH.refuses("check let n : nat := O in n n : nat.", 5, 0);
    }

    private static void conversion() {
        prelude();
        BENCH.takes("axiom f : nat -> nat. axiom P : (nat -> nat) -> Prop. axiom p : P (fun (x : nat) => f x).", 3);
        BENCH.takes("check p : P f.");
        BENCH.takes("axiom q : P f. check q : P (fun (x : nat) => f x).", 2);
        BENCH.takes("check q : P (fun (x : nat) => (fun (y : nat) => f y) x).");
        BENCH.refuses("check q : P (fun (x : nat) => f (f x)).", 4, 0);
        BENCH.refuses("check q : P S.", 4, 0);
        BENCH.takes("axiom c : nat -> Prop. axiom r : c (add (S O) (S O)).", 2);
        BENCH.takes("check r : c (S (S O)).");
        BENCH.refuses("check r : c (S O).", 4, 0);
        BENCH.refuses("check r : Prop.", 4, 0);
        BENCH.refuses("check r : Prop -> Prop.", 4, 0);
        BENCH.takes("axiom d : forall (n : nat), c (add (S O) n). check d : forall (m : nat), c (S m).", 2);
        BENCH.refuses("check d : forall (m : nat), c m.", 4, 0);
        BENCH.refuses("check d : forall (m : Prop), c O.", 4, 0);
        BENCH.refuses("check rec nat Prop : Type 0.", 4, 0);
        // The same head with other sorts of the recursor is another head.
        BENCH.takes("axiom R : forall (A : Type 1), A -> Prop.");
        BENCH.refuses("check fun (C : nat -> Type 0) => rec nat Prop C : Prop.", 4, 0);
    }

    private static void recursors() {
        prelude();
        BENCH.takes("inductive or (A B : Prop) : Prop := { | left : A -> or A B | right : B -> or A B }.");
        BENCH.refuses("check rec or Type 0 : Prop.", 9, 0);
        BENCH.takes("theorem swap : forall (A B : Prop), or A B -> or B A := fun (A B : Prop) (h : or A B) => "
                + "rec or Prop A B (fun (x : or A B) => or B A) (fun (a : A) => right B A a) "
                + "(fun (b : B) => left B A b) h.");
        BENCH.takes("theorem zero : forall (n : nat), eq nat (add n O) n := fun (n : nat) => rec nat Prop "
                + "(fun (m : nat) => eq nat (add m O) m) (refl nat O) (fun (m : nat) (h : eq nat (add m O) m) => "
                + "rec eq Prop nat (add m O) (fun (y : nat) (e : eq nat (add m O) y) => "
                + "eq nat (S (add m O)) (S y)) (refl nat (S (add m O))) m h) n.");
        BENCH.refuses("theorem bad : forall (n : nat), eq nat (add n O) n := fun (n : nat) => refl nat n.", 4, 0);
        BENCH.takes("theorem good : forall (n : nat), eq nat (add O n) n := fun (n : nat) => refl nat n.");
        BENCH.evaluates("rec eq Type 0 nat O (fun (y : nat) (e : eq nat O y) => nat -> nat) S O (refl nat O) O", "S O");
        BENCH.evaluates("fun (e : eq nat O O) => rec eq Type 0 nat O (fun (y : nat) (e : eq nat O y) => nat) O O e",
                "fun (x0 : eq nat O O) => rec eq Type 0 nat O (fun (x1 : nat) => fun (x2 : eq nat O x1) => nat) O O x0");
    }

    private static void unfolding() {
        prelude();
        BENCH.takes("def one : nat := S O. theorem two : nat := S one. axiom three : nat.", 3);
        BENCH.evaluates("add one two", "S two");
        BENCH.evaluates("add two one", "rec nat Type 0 (fun (x0 : nat) => nat) (S O) "
                + "(fun (x0 : nat) => fun (x1 : nat) => S x1) two");
        BENCH.evaluates("add three", "fun (x0 : nat) => rec nat Type 0 (fun (x1 : nat) => nat) x0 "
                + "(fun (x1 : nat) => fun (x2 : nat) => S x2) three");
        BENCH.takes("axiom P : nat -> Prop. axiom p : P two.", 2);
        BENCH.refuses("check p : P (S one).", 4, 0);
        BENCH.takes("axiom q : P one. check q : P (S O).", 2);
    }

    private static void normalForms() {
        prelude();
        BENCH.costs("eval add (S (S O)) (S O).", 729);
        Bench.due("2 + 1", BENCH.out(), "S (S (S O))");
        BENCH.evaluates("fun (n : nat) => add (S n)", "fun (x0 : nat) => fun (x1 : nat) => S (rec nat Type 0 "
                + "(fun (x2 : nat) => nat) x1 (fun (x2 : nat) => fun (x3 : nat) => S x3) x0)");
        BENCH.evaluates("forall (n : (fun (A : Type 0) => A) nat), eq nat (add O n) n",
                "forall (x0 : nat), eq nat x0 x0");
        BENCH.evaluates("fun (x : nat) => let y : nat := S x in S y", "fun (x0 : nat) => S (S x0)");
        BENCH.refuses("eval S S.", 4, 0);
        Bench.due("out of the eval before", BENCH.out(), "fun (x0 : nat) => S (S x0)");
    }

    private static void costs() {
        BENCH.renew();
        BENCH.costs("axiom f : Prop -> Prop.", 1);
        BENCH.costs("check fun (x : Prop) => f x : Prop -> Prop.", 8);
        BENCH.costs("check f : forall (x : Prop), Prop.", 2);
        BENCH.costs("axiom P : (Prop -> Prop) -> Type 0.", 2);
        BENCH.costs("axiom p : P (fun (x : Prop) => f x).", 8);
        BENCH.costs("check p : P f.", 8);
        BENCH.costs("eval fun (x : Prop) => (fun (y : Prop) => f y) x.", 29);
        BENCH.costs("axiom q : forall (x y : Prop) (z : Type 0), z -> Prop.", 16);
    }
}
