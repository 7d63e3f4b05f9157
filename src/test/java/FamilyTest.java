/** inductive: its tests, its recursor and its rules. */
public final class FamilyTest {
    private static final Bench BENCH = new Bench();

    public static void main(String[] args) {
        shapes();
        universes();
        positivity();
        largeElimination();
        recursorTypes();
        rules();
        sizes();
        Bench.finish(FamilyTest.class);
    }

    private static void prelude() {
        BENCH.renew();
        BENCH.takes("inductive nat : Type 0 := { | O : nat | S : nat -> nat }.");
        BENCH.takes("inductive list (A : Type 0) : Type 0 := { | nil : list A | cons : A -> list A -> list A }.");
    }

    private static void shapes() {
        prelude();
        BENCH.refuses("inductive d : nat := { }.", 8, 0);
        BENCH.refuses("inductive d : nat -> nat := { }.", 8, 0);
        BENCH.refuses("inductive d : (fun (x : Type 1) => x) (Type 0) := { }.", 8, 0);
        BENCH.refuses("inductive d : let x : Type 1 := Type 0 in x := { }.", 8, 0);
        BENCH.refuses("inductive d (A : O) : Prop := { }.", 6, 0);
        BENCH.refuses("inductive d (A : O) : nat := { }.", 8, 0);
        BENCH.refuses("inductive d : Type 99 := { }.", 7, 0);
        BENCH.refuses("inductive d : Prop := { | c : nat }.", 8, 0);
        BENCH.refuses("inductive d : Prop := { | c : d -> nat }.", 8, 0);
        BENCH.refuses("inductive d : Prop := { | c : (fun (x : Prop) => x) d }.", 8, 0);
        BENCH.refuses("inductive d : nat -> Prop := { | c : d }.", 8, 0);
        BENCH.refuses("inductive d : Prop := { | c : d O }.", 8, 0);
        BENCH.refuses("inductive d (A : Type 0) : Prop := { | c : d nat }.", 8, 0);
        BENCH.refuses("inductive d (A B : Type 0) : Prop := { | c : d B A }.", 8, 0);
        BENCH.refuses("inductive d : Type 0 -> Type 0 := { | c : d (d nat) }.", 8, 0);
        // The end has the right form, but is no type.
        BENCH.refuses("inductive d : nat -> Prop := { | c : d nat }.", 4, 0);
        BENCH.refuses("inductive d : nat -> Prop := { | c : O -> d O }.", 6, 0);
        BENCH.refuses("inductive d : nat -> Prop := { | c : O O -> d O }.", 5, 0);
        BENCH.takes("inductive d (A : Type 0) : nat -> A -> Prop := { | c : forall (a : A), d A O a }.");
    }

    private static void universes() {
        prelude();
        BENCH.refuses("inductive u : Type 0 := { | c : Type 0 -> u }.", 7, 0);
        BENCH.takes("inductive u : Type 1 := { | c : Type 0 -> u }.");
        BENCH.takes("inductive v : Prop := { | w : Type 9 -> v }.");
        BENCH.takes("inductive z (A : Type 7) : Type 0 := { | y : z A }.");
        BENCH.refuses("inductive x (A : Type 3) : Type 2 := { | xc : A -> x A }.", 7, 0);
        BENCH.takes("inductive x (A : Type 2) : Type 2 := { | xc : A -> x A }.");
        // For each ARGUMENT its sort is judged before its form, and before the next one.
        BENCH.refuses("inductive t : Type 0 := { | c0 : (Type 0 -> t -> t) -> t }.", 7, 0);
        BENCH.refuses("inductive t : Type 0 := { | c0 : (t -> nat) -> Type 0 -> t }.", 8, 0);
        BENCH.refuses("inductive t : Type 0 := { | c0 : Type 0 -> (t -> nat) -> nat }.", 7, 0);
    }

    private static void positivity() {
        prelude();
        BENCH.refuses("inductive t : Type 0 := { | c : (t -> nat) -> t }.", 8, 0);
        BENCH.refuses("inductive t : Type 0 := { | c : ((t -> nat) -> nat) -> t }.", 8, 0);
        BENCH.refuses("inductive t : Type 0 := { | c : (nat -> t -> t) -> t }.", 8, 0);
        BENCH.refuses("inductive t : Type 0 := { | c : list t -> t }.", 8, 0);
        BENCH.refuses("inductive t (A : Type 0) : Type 0 := { | c : t nat -> t A }.", 8, 0);
        BENCH.refuses("inductive t : Type 0 := { | c : (let x : Type 0 := nat in t) -> t }.", 8, 0);
        BENCH.takes("inductive t : Type 0 := { | c : (nat -> nat -> t) -> t -> (let x : Type 0 := nat in x) -> t }.");
        BENCH.tells(6, 3, 1, 0, 0, 0, 1, 0, 0);
        BENCH.tells(7, 4, 14, 0, 0, 0, 0, 3, 2);
    }

    private static void largeElimination() {
        prelude();
        largeIs(true, "inductive e : Prop := { }.");
        largeIs(true, "inductive e : Prop := { | c : e }.");
        largeIs(false, "inductive e : Prop := { | c : e | d : e }.");
        largeIs(true, "inductive e : Type 0 := { | c : e | d : e }.");
        largeIs(false, "inductive e : Prop := { | c : nat -> e }.");
        largeIs(true, "inductive e : nat -> Prop := { | c : forall (n : nat), e n }.");
        largeIs(false, "inductive e : nat -> Prop := { | c : forall (n : nat), e (S n) }.");
        largeIs(true, "inductive e : nat -> nat -> Prop := { | c : forall (n m : nat), e m n }.");
        largeIs(false, "inductive e : nat -> nat -> Prop := { | c : forall (n m : nat), e n n }.");
        largeIs(true, "inductive e (A : Prop) : Prop := { | c : A -> (nat -> e A) -> e A }.");
        largeIs(false, "inductive e (A : Type 0) : Prop := { | c : A -> e A }.");
    }

    private static void largeIs(boolean large, String text) {
        BENCH.takes(text);
        int family = 6;
        Bench.due("name of " + text, BENCH.kernel().constant(family, 0), 3);
        BENCH.takes("eval rec e Prop.");
        if (large) {
            BENCH.takes("eval rec e Type 0. eval rec e Type 99.", 2);
            Bench.due("showRec of " + text, BENCH.kernel().showRec(family, 100) > 0, true);
        } else {
            BENCH.refuses("eval rec e Type 0.", 9, 0);
            Bench.throwsIt("showRec of " + text, java.util.NoSuchElementException.class,
                    () -> BENCH.kernel().showRec(family, 1));
        }
        BENCH.kernel().reset();
        BENCH.takes("inductive nat : Type 0 := { | O : nat | S : nat -> nat }.");
        BENCH.takes("inductive list (A : Type 0) : Type 0 := { | nil : list A | cons : A -> list A -> list A }.");
    }

    private static void recursorTypes() {
        prelude();
        BENCH.showsRec(0, 0, "forall (x0 : nat -> Prop), x0 O -> (forall (x2 : nat), x0 x2 -> x0 (S x2)) -> "
                + "forall (x3 : nat), x0 x3");
        BENCH.showsRec(3, 1, "forall (x0 : Type 0), forall (x1 : list x0 -> Type 0), x1 (nil x0) -> "
                + "(forall (x3 : x0), forall (x4 : list x0), x1 x4 -> x1 (cons x0 x3 x4)) -> "
                + "forall (x4 : list x0), x1 x4");
        BENCH.takes("inductive acc (A : Type 0) (R : A -> A -> Prop) : A -> Prop := { | ain : forall (x : A), "
                + "(forall (y : A), R y x -> acc A R y) -> acc A R x }.");
        BENCH.showsRec(6, 100, "forall (x0 : Type 0), forall (x1 : x0 -> x0 -> Prop), "
                + "forall (x2 : forall (x2 : x0), acc x0 x1 x2 -> Type 99), "
                + "(forall (x3 : x0), forall (x4 : forall (x4 : x0), x1 x4 x3 -> acc x0 x1 x4), "
                + "(forall (x5 : x0), forall (x6 : x1 x5 x3), x2 x5 (x4 x5 x6)) -> x2 x3 (ain x0 x1 x3 x4)) -> "
                + "forall (x4 : x0), forall (x5 : acc x0 x1 x4), x2 x4 x5");
        BENCH.takes("inductive two : Type 0 := { | mk : two -> nat -> two -> two }.");
        BENCH.showsRec(8, 0, "forall (x0 : two -> Prop), (forall (x1 : two), forall (x2 : nat), forall (x3 : two), "
                + "x0 x1 -> x0 x3 -> x0 (mk x1 x2 x3)) -> forall (x2 : two), x0 x2");
    }

    private static void rules() {
        prelude();
        BENCH.takes("inductive tree : Type 0 := { | leaf : nat -> tree | node : (nat -> tree) -> tree -> tree }.");
        BENCH.evaluates("rec tree Type 0 (fun (t : tree) => nat) (fun (n : nat) => n) (fun (f : nat -> tree) (t : tree) "
                + "(u : nat -> nat) (v : nat) => u (u v)) (node (fun (n : nat) => leaf (S n)) (leaf O))", "S (S O)");
        BENCH.takes("inductive vec (A : Type 0) : nat -> Type 0 := { | vnil : vec A O | "
                + "vcons : forall (n : nat), A -> vec A n -> vec A (S n) }.");
        BENCH.evaluates("rec vec Type 0 nat (fun (k : nat) (w : vec nat k) => list nat) (nil nat) "
                + "(fun (k h : nat) (w : vec nat k) (y : list nat) => cons nat h (cons nat k y)) (S (S O)) "
                + "(vcons nat (S O) (S O) (vcons nat O (S (S O)) (vnil nat)))",
                "cons nat (S O) (cons nat (S O) (cons nat (S (S O)) (cons nat O (nil nat))))");
        // What stands behind the MAJOR stays, and a recursor that lacks its MAJOR does not step.
        BENCH.evaluates("rec nat Type 0 (fun (n : nat) => nat -> nat) S (fun (n : nat) (f : nat -> nat) => f) (S O) O", "S O");
        BENCH.evaluates("rec nat Type 0 (fun (n : nat) => nat) O", "rec nat Type 0 (fun (x0 : nat) => nat) O");
        BENCH.takes("inductive none : Type 0 := { }.");
        BENCH.evaluates("fun (x : none) => rec none Type 0 (fun (y : none) => nat) x",
                "fun (x0 : none) => rec none Type 0 (fun (x1 : none) => nat) x0");
    }

    private static void sizes() {
        BENCH.renew();
        sizesAre("inductive nat : Type 0 := { | O : nat | S : nat -> nat }.", 3, 86);
        sizesAre("inductive bool : Type 0 := { | true : bool | false : bool }.", 0, 132);
        sizesAre("inductive eq (A : Type 0) (a : A) : A -> Prop := { | refl : eq A a a }.", 37, 218);
        sizesAre("inductive False : Prop := { }.", 0, 228);
        sizesAre("inductive and (A B : Prop) : Prop := { | conj : A -> B -> and A B }.", 66, 320);
        sizesAre("inductive or (A B : Prop) : Prop := { | left : A -> or A B | right : B -> or A B }.", 78, 474);
        sizesAre("inductive list (A : Type 0) : Type 0 := { | nil : list A | cons : A -> list A -> list A }.", 51, 626);
        sizesAre("inductive vec (A : Type 0) : nat -> Type 0 := { | vnil : vec A O | "
                + "vcons : forall (n : nat), A -> vec A n -> vec A (S n) }.", 157, 858);
        sizesAre("inductive ex (A : Type 0) (P : A -> Prop) : Prop := { | wit : forall (x : A), P x -> ex A P }.", 88, 966);
        sizesAre("inductive acc (A : Type 0) (R : A -> A -> Prop) : A -> Prop := { | ain : forall (x : A), "
                + "(forall (y : A), R y x -> acc A R y) -> acc A R x }.", 267, 1214);
    }

    private static void sizesAre(String text, int work, int sizes) {
        BENCH.costs(text, work);
        Bench.due("sizes behind " + text, BENCH.kernel().count(3), sizes);
    }
}
