/** The bounds: what just keeps them is accepted, what goes one beyond is too great. */
public final class BoundsTest {
    private static final String NAT = "inductive nat : Type 0 := { | O : nat | S : nat -> nat }.";
    private static final String TEN = "def ten : nat -> nat := fun (x : nat) => S (S (S (S (S (S (S (S (S (S x))))))))).";
    private static final Bench BENCH = new Bench();

    public static void main(String[] args) {
        sizeInText();
        depthInText();
        parametersInText();
        sizeByStep();
        depthByStep();
        infers();
        convs();
        normals();
        majors();
        work();
        textOfFamilies();
        wordsBound();
        copies();
        constants();
        sizes();
        recursors();
        Bench.finish(BoundsTest.class);
    }

    private static void sizeInText() {
        BENCH.renew();
        BENCH.takes("axiom f : Prop.");
        BENCH.refuses("eval f" + Bench.repeat(" f", 1499) + ".", 5, 0);
        BENCH.refuses("eval f" + Bench.repeat(" f", 1500) + ".", 10, 0);
        // As soon as it is whole, before what is behind it is judged.
        BENCH.refuses("eval f" + Bench.repeat(" f", 1499) + " @", 1, 3005);
        BENCH.refuses("eval f" + Bench.repeat(" f", 1500) + " @", 10, 0);
        BENCH.refuses("eval f" + Bench.repeat(" f", 1499) + " none", 2, 3005);
        BENCH.refuses("eval Prop -> f" + Bench.repeat(" f", 1498) + " @", 1, 3011);
        BENCH.refuses("eval Prop -> f" + Bench.repeat(" f", 1499) + " @", 10, 0);
        BENCH.refuses("eval fun (x : Prop) => f" + Bench.repeat(" f", 1498) + " @", 1, 3021);
        BENCH.refuses("eval fun (x : Prop) => f" + Bench.repeat(" f", 1499) + " @", 10, 0);
        BENCH.refuses("eval let x : f := f in f" + Bench.repeat(" f", 1498) + " @", 1, 3021);
        BENCH.refuses("eval let x : f := f in f" + Bench.repeat(" f", 1499) + " @", 10, 0);
        BENCH.refuses("eval (let x : f := f in f" + Bench.repeat(" f", 1497) + ") f @", 1, 3023);
        BENCH.refuses("eval (let x : f := f in f" + Bench.repeat(" f", 1498) + ") f @", 10, 0);
        BENCH.refuses("eval let x : f := f in f" + Bench.repeat(" f", 1499), 10, 0);
    }

    private static void depthInText() {
        BENCH.renew();
        // 199 names and the body are 200 deep; with 200 names it is one too many.
        BENCH.refuses("eval fun (" + Bench.repeat("x ", 199) + ": Prop) => Prop @", 1, 10 + 398 + 16);
        BENCH.refuses("eval fun (" + Bench.repeat("x ", 200) + ": Prop) => Prop @", 10, 0);
        BENCH.refuses("eval forall (" + Bench.repeat("x ", 200) + ": Prop), Prop @", 10, 0);
        // The names count only when the body is whole.
        BENCH.refuses("eval forall (" + Bench.repeat("x ", 200) + ": Prop), none.", 2, 13 + 400 + 9);
        // An argument is one deeper than the function, the function is not.
        BENCH.takes("axiom g : Prop -> Prop.");
        BENCH.refuses("eval (fun (" + Bench.repeat("x ", 199) + ": Prop) => Prop) Prop @", 1, 11 + 398 + 22);
        BENCH.refuses("eval g (fun (" + Bench.repeat("x ", 199) + ": Prop) => Prop) @", 10, 0);
    }

    private static void parametersInText() {
        BENCH.renew();
        String two = "inductive I (" + Bench.repeat("x ", 200) + ": Prop) : Prop ";
        BENCH.refuses(two + "@", 1, two.length());
        BENCH.refuses(two + ":= @", 1, two.length() + 3);
        BENCH.refuses(two + ":= { @", 10, 0);
        String one = "inductive I (" + Bench.repeat("x ", 199) + ": Prop) : Prop ";
        BENCH.refuses(one + ":= { @", 1, one.length() + 5);
    }

    private static void sizeByStep() {
        BENCH.renew();
        BENCH.takes("axiom g : Prop -> Prop -> Prop. def d : Prop -> Prop := fun (x : Prop) => g x x.", 2);
        // d n times has 4 * 2^n - 3 within: 2045 for 9, 4093 for 10.
        BENCH.takes("axiom a : Prop. def d5 : Prop -> Prop := fun (x : Prop) => d (d (d (d (d x)))).", 2);
        BENCH.takes("eval d5 (d (d (d (d a)))).");
        Bench.due("2^9 times a", BENCH.kernel().count(5), 512 + 511 + 1022 + 1020);
        BENCH.refuses("eval d5 (d5 a).", 10, 0);
    }

    private static void depthByStep() {
        BENCH.renew();
        BENCH.takes(NAT + TEN, 2);
        BENCH.takes("def s50 : nat -> nat := fun (x : nat) => ten (ten (ten (ten (ten x)))).");
        BENCH.takes("axiom P : nat -> Prop. axiom p : P (s50 (s50 O)).", 2);
        BENCH.takes("check p : P (s50 (s50 O)).");
        BENCH.takes("check p : P (" + Bench.repeat("ten (", 10) + "O" + Bench.repeat(")", 10) + ").");
    }

    private static void infers() {
        BENCH.renew();
        BENCH.costs("axiom a : forall (" + Bench.repeat("x ", 149) + ": Prop), Prop.", 22201);
        BENCH.refuses("axiom b : forall (" + Bench.repeat("x ", 150) + ": Prop), Prop.", 10, 0);
    }

    private static void convs() {
        BENCH.renew();
        BENCH.takes(NAT + TEN, 2);
        BENCH.takes("axiom n : nat. def m : nat := n. axiom P : nat -> Prop.", 3);
        BENCH.takes("axiom p : P (" + tens(11, 8, "n") + "). axiom q : P (" + tens(11, 9, "n") + ").", 2);
        BENCH.takes("check p : P (" + onesThenTens(11, 8, "m") + ").");
        BENCH.refuses("check q : P (" + onesThenTens(11, 9, "m") + ").", 10, 0);
    }

    private static void normals() {
        BENCH.renew();
        BENCH.takes(NAT + TEN, 2);
        BENCH.takes("eval " + tens(11, 9, "O") + ".");
        BENCH.refuses("eval " + tens(11, 10, "O") + ".", 10, 0);
    }

    private static String tens(int tens, int ones, String inner) {
        return Bench.repeat("ten (", tens) + Bench.repeat("S (", ones) + inner + Bench.repeat(")", tens + ones);
    }

    private static String onesThenTens(int tens, int ones, String inner) {
        return Bench.repeat("S (", ones) + Bench.repeat("ten (", tens) + inner + Bench.repeat(")", tens + ones);
    }

    private static void majors() {
        BENCH.renew();
        BENCH.takes(NAT);
        BENCH.takes("inductive one : Type 0 := { | it : one }. axiom o : one.", 2);
        BENCH.takes("axiom T : one -> Type 0. axiom P : one -> Prop.", 2);
        // WHNF of 61 recursors within one another asks 61 MAJORS, the last of them o.
        BENCH.takes("def r : one -> one := rec one Type 0 (fun (x : one) => one) it.");
        BENCH.takes("def r10 : one -> one := fun (x : one) => r (r (r (r (r (r (r (r (r (r x))))))))).");
        String sixty = "(r10 (r10 (r10 (r10 (r10 (r10 o))))))";
        BENCH.takes("axiom p : P " + sixty + ". axiom q : P (r " + sixty + ").", 2);
        BENCH.takes("def f : one -> Type 0 := rec one Type 1 (fun (x : one) => Type 0) one.");
        BENCH.takes("axiom a : f " + sixty.replace("(r10 o)", "(r (r (r (r (r (r (r (r (r o)))))))))") + ".");
        BENCH.refuses("check a Prop : Prop.", 5, 0);
        BENCH.takes("axiom b : f " + sixty + ".");
        BENCH.refuses("check b Prop : Prop.", 10, 0);
    }

    private static void work() {
        BENCH.renew();
        BENCH.takes(NAT);
        BENCH.takes("def add : nat -> nat -> nat := fun (a b : nat) => rec nat Type 0 (fun (x : nat) => nat) b "
                + "(fun (x y : nat) => S y) a.");
        BENCH.takes("def mul : nat -> nat -> nat := fun (a b : nat) => rec nat Type 0 (fun (x : nat) => nat) O "
                + "(fun (x y : nat) => add b y) a.");
        BENCH.costs("eval mul " + number(9) + " " + number(9) + ".", 59782);
        BENCH.refuses("eval mul " + number(9) + " " + number(10) + ".", 10, 0);
        Bench.due("work stays", BENCH.kernel().count(2), 59782);
        BENCH.costs("axiom just : " + chains(90, 90, 90, 90, 90, 63, 75, 74) + ".", 60000);
        BENCH.refuses("axiom more : " + chains(90, 90, 90, 90, 90, 78, 41, 86) + ".", 10, 0);
    }

    /** A chain of n arrows costs n * n, one before the others also their SIZE. */
    private static String chains(int... arrows) {
        StringBuilder text = new StringBuilder();
        for (int number : arrows) {
            text.append("(").append(Bench.repeat("Prop -> ", number)).append("Prop) -> ");
        }
        return text.append("Prop").toString();
    }

    private static String number(int n) {
        return Bench.repeat("(S ", n) + "O" + Bench.repeat(")", n);
    }

    private static void textOfFamilies() {
        BENCH.renew();
        BENCH.takes("axiom f : Prop.");
        // 1 for Prop, 4 members of 1,199 each and a last one that makes it 6,000 or 6,002.
        String four = "inductive I : Prop := {";
        for (int i = 0; i < 4; i++) {
            four += " | c" + i + " : f" + Bench.repeat(" f", 598) + " -> I";
        }
        String just = four + " | c : f" + Bench.repeat(" f", 600) + " -> I }";
        String more = four + " | c : f" + Bench.repeat(" f", 601) + " -> I }";
        BENCH.refuses(just + ".", 5, 0);
        BENCH.refuses(more + ".", 10, 0);
        BENCH.refuses(four + " | c : let x : f := f in f" + Bench.repeat(" f", 600) + " }.", 10, 0);
        // It is tested behind the last sign.
        BENCH.refuses(more, 1, more.length());
        BENCH.refuses(more + " none", 1, more.length() + 1);
    }

    private static void wordsBound() {
        BENCH.renew();
        String words = Bench.repeat("x ", 3000);
        BENCH.refuses("axiom a : forall (" + words + "@", 1, 18 + 6000);
        BENCH.refuses("axiom a : forall (" + words + "x @", 10, 0);
        BENCH.refuses("axiom a : forall (" + words + ": Prop), (@", 1, 18 + 6000 + 10);
        BENCH.refuses("axiom a : forall (" + words + ": Prop), fun (@", 1, 18 + 6000 + 14);
        BENCH.refuses("axiom a : forall (" + words + ": Prop), fun (x @", 10, 0);
        BENCH.refuses("axiom a : forall (" + words + ": forall (x @", 10, 0);
        String fewer = Bench.repeat("x ", 2999);
        BENCH.refuses("axiom a : Prop -> forall (" + fewer + "@", 1, 26 + 5998);
        BENCH.refuses("axiom a : Prop -> forall (" + fewer + "x @", 10, 0);
        BENCH.refuses("axiom a : let y : Type 0 := Prop in forall (" + fewer + "@", 1, 44 + 5998);
        BENCH.refuses("axiom a : let y : Type 0 := Prop in forall (" + fewer + "x @", 10, 0);
        BENCH.refuses("inductive a (y : Prop) (" + fewer + "@", 1, 24 + 5998);
        BENCH.refuses("inductive a (y : Prop) (" + fewer + "x @", 10, 0);
        // What was bound in a TERM that has ended is not around any more.
        BENCH.refuses("axiom a : (Prop -> Prop) -> forall (" + fewer + "@", 1, 36 + 5998);
    }

    private static void copies() {
        BENCH.renew();
        BENCH.takes("axiom f : Prop.");
        // The type has a SIZE of 101, so that 59 copies keep the bound and 60 do not.
        String type = "f" + Bench.repeat(" f", 49) + " -> f";
        BENCH.refuses("axiom a : forall (" + Bench.repeat("x ", 60) + ": " + type + " @", 1, 18 + 120 + 2 + type.length() + 1);
        BENCH.refuses("axiom a : forall (" + Bench.repeat("x ", 61) + ": " + type + " @", 10, 0);
        String half = "(" + Bench.repeat("x ", 31) + ": " + type + ")";
        BENCH.refuses("axiom a : forall " + half + " (x : " + type + ") @", 1, 17 + half.length() + 6 + type.length() + 2);
        BENCH.refuses("axiom a : forall " + half + " " + half + " @", 10, 0);
        String just = "axiom a : forall (" + Bench.repeat("x ", 2001) + ": Prop -> Prop) ";
        BENCH.refuses(just + "@", 1, just.length());
        BENCH.refuses(just + "(x : Prop) @", 1, just.length() + 11);
        BENCH.refuses(just + "(x y : Prop @", 10, 0);
    }

    private static void constants() {
        BENCH.renew();
        StringBuilder axioms = new StringBuilder();
        for (int i = 0; i < 298; i++) {
            axioms.append("axiom a").append(i).append(":Prop.");
        }
        BENCH.takes(axioms.toString(), 298);
        BENCH.refuses("inductive I : Prop := { | x : I | y : @", 10, 0);
        BENCH.refuses("inductive I : Prop := { | x : I | a1 : I }.", 2, 34);
        BENCH.takes("inductive I : Prop := { | x : I }.");
        Bench.due("constants", BENCH.kernel().count(0), 300);
        BENCH.refuses("axiom y @", 10, 0);
        BENCH.refuses("  inductive y @", 10, 2);
        BENCH.refuses("axiom @", 1, 6);
        BENCH.takes("check x : I. eval x.", 2);
        Bench.due("reset", BENCH.kernel().reset(), 300);
        BENCH.takes("axiom y : Prop.");
    }

    private static void sizes() {
        BENCH.renew();
        BENCH.takes("axiom f : " + Bench.repeat("Prop -> ", 100) + "Prop.");
        // 199 more of 150 each and one that fills the rest up to 30,000.
        StringBuilder some = new StringBuilder();
        for (int i = 0; i < 99; i++) {
            BENCH.takes("axiom b" + i + " : " + Bench.repeat("Prop -> ", 100) + "Prop.");
            BENCH.takes("def c" + i + " : Type 0 := " + Bench.repeat("Prop -> ", 48) + "Prop.");
        }
        Bench.due("sizes", BENCH.kernel().count(3), 201 + 99 * 201 + 99 * 98);
        BENCH.refuses("def d : Type 0 := " + Bench.repeat("Prop -> ", 99) + "Prop.", 10, 0);
        BENCH.takes("axiom e : " + Bench.repeat("Prop -> ", 40) + "Prop.");
        Bench.due("sizes", BENCH.kernel().count(3), 29883);
        BENCH.refuses("axiom g : " + Bench.repeat("Prop -> ", 59) + "Prop.", 10, 0);
        BENCH.refuses("inductive nat : Type 0 := { | O : nat | S : nat -> nat | T : nat }.", 10, 0);
        BENCH.takes("inductive nat : Type 0 := { | O : nat | S : nat -> nat }.");
        Bench.due("sizes", BENCH.kernel().count(3), 29969);
        BENCH.takes("axiom g : " + Bench.repeat("Prop -> ", 15) + "Prop.");
        Bench.due("sizes", BENCH.kernel().count(3), 30000);
        BENCH.refuses("axiom h : Prop.", 10, 0);
        BENCH.takes("check nat : Type 0.");
    }

    private static void recursors() {
        BENCH.renew();
        // REC's type of n nullary members is 10 + 4 n - 1, its rules are n times as great.
        BENCH.takes(members(80));
        BENCH.kernel().reset();
        BENCH.refuses(members(100), 10, 0);
        // REC's type and rule have 30 for each ARGUMENT: 97 of them keep the SIZE of 3,000.
        BENCH.takes("inductive J : Type 0 := { | j : " + Bench.repeat("J -> ", 97) + "J }.");
        BENCH.kernel().reset();
        BENCH.refuses("inductive J : Type 0 := { | j : " + Bench.repeat("J -> ", 98) + "J }.", 10, 0);
    }

    private static String members(int number) {
        StringBuilder text = new StringBuilder("inductive I : Type 0 := {");
        for (int i = 0; i < number; i++) {
            text.append("|c").append(i).append(":I");
        }
        return text.append("}.").toString();
    }
}
