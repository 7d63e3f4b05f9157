/** The TEXT: words, numbers, signs, what they may stand for, and the faults 1, 2 and 3. */
public final class TextTest {
    private static final Bench BENCH = new Bench();

    public static void main(String[] args) {
        words();
        signs();
        declarations();
        names();
        ownNames();
        nesting();
        firstFaultComesFirst();
        Bench.finish(TextTest.class);
    }

    private static void words() {
        BENCH.renew();
        String longest = Bench.repeat("w", 31);
        BENCH.takes("axiom " + longest + " : Prop.");
        BENCH.refuses("axiom " + longest + "w : Prop.", 1, 6);
        BENCH.refuses("check " + longest + "w : Prop.", 1, 6);
        BENCH.takes("axiom a'_9' : Prop.");
        BENCH.takes("axiom axiom' : Prop. axiom Axiom : Prop. axiom prop : Prop.", 3);
        BENCH.refuses("axiom 'a : Prop.", 1, 6);
        BENCH.refuses("axiom _a : Prop.", 1, 6);
        for (String word : "axiom def theorem inductive check eval fun forall let in Prop Type rec".split(" ")) {
            BENCH.refuses("axiom " + word + " : Prop.", 1, 6);
        }
        BENCH.takes("check Type 97 : Type 0098.");
        BENCH.refuses("check Type 98 : Type 99.", 7, 0);
        BENCH.refuses("check Type 100 : Prop.", 3, 11);
        BENCH.refuses("check Type 9999 : Prop.", 3, 11);
        BENCH.refuses("check Type 00099 : Prop.", 1, 11);
        BENCH.refuses("check Type : Prop.", 1, 11);
        BENCH.refuses("check Type x : Prop.", 1, 11);
        BENCH.refuses("check 0 : Prop.", 1, 6);
        BENCH.refuses("axiom 100 : Prop.", 1, 6);
        BENCH.takes("axiom b:Type 0%nothing\n->Type 0.");
        BENCH.refuses("check Type 0b : Prop.", 5, 0);
    }

    private static void signs() {
        BENCH.renew();
        BENCH.takes("axiom\ta\r\n:%:= { @ \200\nProp.%the end");
        BENCH.takes("def b:Type 0:=Prop.");
        BENCH.refuses("def c:Type 0: =Prop.", 1, 12);
        BENCH.refuses("def c:Type 0:= >Prop.", 1, 15);
        BENCH.refuses("check Prop - > Prop : Prop.", 1, 11);
        BENCH.refuses("check Prop = > Prop : Prop.", 1, 11);
        BENCH.refuses("check Prop > Prop : Prop.", 1, 11);
        BENCH.refuses("check Prop ; Prop : Prop.", 1, 11);
        BENCH.refuses("check Prop \0 : Prop.", 1, 11);
        BENCH.refuses("check Prop \u000b : Prop.", 1, 11);
        BENCH.refuses("check Prop : Type 0", 1, 19);
        BENCH.refuses("check Prop : Type 0 % . \n ", 1, 26);
    }

    private static void declarations() {
        BENCH.renew();
        BENCH.refuses("Prop.", 1, 0);
        BENCH.refuses(" . ", 1, 1);
        BENCH.refuses("axiom a Prop.", 1, 8);
        BENCH.refuses("axiom a : .", 1, 10);
        BENCH.refuses("axiom a : Prop := Prop.", 1, 15);
        BENCH.refuses("def a : Type 0.", 1, 14);
        BENCH.refuses("theorem a : Prop", 1, 16);
        BENCH.refuses("check Prop.", 1, 10);
        BENCH.refuses("eval Prop : Type 0.", 1, 10);
        BENCH.refuses("axiom a : fun x => x.", 1, 14);
        BENCH.refuses("axiom a : fun => Prop.", 1, 14);
        BENCH.refuses("axiom a : fun (: Prop) => Prop.", 1, 15);
        BENCH.refuses("axiom a : fun (x Prop) => Prop.", 1, 17);
        BENCH.refuses("axiom a : fun (x : Prop => Prop.", 1, 24);
        BENCH.refuses("axiom a : fun (x : Prop), Prop.", 1, 24);
        BENCH.refuses("axiom a : forall (x : Prop) => Prop.", 1, 28);
        BENCH.refuses("axiom a : let (x : Prop) := Prop in x.", 1, 14);
        BENCH.refuses("axiom a : let x := Prop in x.", 1, 16);
        BENCH.refuses("axiom a : let x : Type 0 := Prop, x.", 1, 32);
        BENCH.refuses("axiom a : (Prop.", 1, 15);
        BENCH.refuses("axiom a : ().", 1, 11);
        BENCH.refuses("axiom a : -> Prop.", 1, 10);
        BENCH.refuses("axiom a : Prop -> .", 1, 18);
        BENCH.refuses("axiom a : Prop fun (x : Prop) => x.", 1, 15);
        BENCH.refuses("inductive a : Prop := Prop.", 1, 22);
        BENCH.refuses("inductive a : Prop := { b : a }.", 1, 24);
        BENCH.refuses("inductive a : Prop := { | : a }.", 1, 26);
        BENCH.refuses("inductive a : Prop := { | b a }.", 1, 28);
        BENCH.refuses("inductive a : Prop := { | b : a .", 1, 32);
        BENCH.refuses("inductive a : Prop := { | b : a }", 1, 33);
        BENCH.refuses("inductive a () : Prop := { }.", 1, 13);
        BENCH.refuses("inductive a (A : Prop := { }.", 1, 22);
        BENCH.refuses("inductive a (A : Prop) := { }.", 1, 23);
        BENCH.takes("inductive a (A B : Prop) (x : A) : B -> Prop := { | c : forall (b : B), a A B x b }.");
    }

    private static void names() {
        BENCH.renew();
        BENCH.takes("axiom a : Type 0. axiom x : a.", 2);
        BENCH.refuses("axiom b : c.", 2, 10);
        BENCH.refuses("axiom a : Prop.", 2, 6);
        BENCH.refuses("axiom b : b.", 2, 10);
        BENCH.refuses("def b : Type 0 := b.", 2, 18);
        // The innermost binder, else the constant; those in the same ( ) are not known there.
        BENCH.evaluates("fun (x : Type 0) (x : x) => x", "fun (x0 : Type 0) => fun (x1 : x0) => x1");
        BENCH.evaluates("fun (x : a) (y : a) => x", "fun (x0 : a) => fun (x1 : a) => x0");
        BENCH.evaluates("fun (a : Type 0) (y z : a) => y", "fun (x0 : Type 0) => fun (x1 : x0) => fun (x2 : x0) => x1");
        BENCH.refusesAt("eval fun (y z : y) => z.", 2, "y) =>");
        BENCH.refusesAt("eval let y : a := y in y.", 2, "y in");
        BENCH.refusesAt("eval let y : y := x in y.", 2, "y :=");
        BENCH.refusesAt("eval (fun (y : a) => y) y.", 2, "y.");
        BENCH.refusesAt("eval (let y : a := x in y) y.", 2, "y.");
        BENCH.evaluates("let x : Type 0 := a in x", "a");
        BENCH.evaluates("forall (A : Type 0), A", "forall (x0 : Type 0), x0");
        BENCH.evaluates("fun (f : a -> a -> a) (y : a) => f y x", "fun (x0 : a -> a -> a) => fun (x1 : a) => x0 x1 x");
    }

    private static void ownNames() {
        BENCH.renew();
        BENCH.takes("axiom k : Prop.");
        BENCH.refusesAt("inductive I : I := { }.", 2, "I :=");
        BENCH.refusesAt("inductive I (A : I) : Prop := { }.", 2, "I) :");
        BENCH.refusesAt("inductive k : Prop := { }.", 2, "k");
        BENCH.refusesAt("inductive I : Prop := { | I : I }.", 2, "I : I }");
        BENCH.refusesAt("inductive I : Prop := { | k : I }.", 2, "k");
        BENCH.refusesAt("inductive I : Prop := { | c : I | c : I }.", 2, "c : I }");
        BENCH.refusesAt("inductive I : Prop := { | c : I | d : c }.", 2, "c }");
        BENCH.refusesAt("inductive I : Prop := { | c : rec I Prop }.", 2, "I Prop");
        BENCH.refusesAt("check rec k Prop : Prop.", 2, "k Prop");
        BENCH.refusesAt("check rec Prop Prop : Prop.", 1, "Prop");
        BENCH.takes("inductive I (A : Prop) : Prop := { | A : I A }.");
        BENCH.refusesAt("check rec A Prop : Prop.", 2, "A");
        BENCH.refusesAt("check rec nothing Prop : Prop.", 2, "nothing");
        BENCH.refusesAt("check rec I : Prop.", 1, ":");
        BENCH.refusesAt("check fun (I : Prop) => rec I Prop : Prop.", 2, "I Prop");
        BENCH.refusesAt("check rec I Type 100 : Prop.", 3, "100");
    }

    private static void nesting() {
        BENCH.renew();
        nestsIn("check ", "(", "Prop", ")", " : Type 0.");
        nestsIn("eval ", "Prop -> ", "Prop", "", ".");
        nestsIn("eval ", "fun (x : Prop) => ", "Prop", "", ".");
        nestsIn("eval ", "forall (x : Prop), ", "Prop", "", ".");
        nestsIn("eval ", "let x : Type 0 := Prop in ", "Prop", "", ".");
        // Whatever stands 101 deep: even the end, or what is no sign at all.
        BENCH.refuses("eval " + Bench.repeat("(", 101), 3, 106);
        BENCH.refuses("eval " + Bench.repeat("(", 101) + " @", 3, 107);
        BENCH.refuses("eval " + Bench.repeat("(", 101) + ")", 3, 106);
        BENCH.refuses("eval " + Bench.repeat("(", 101) + "none", 3, 106);
        BENCH.refuses("eval " + Bench.repeat("(", 100) + " @", 1, 106);
        BENCH.refuses("eval " + Bench.repeat("(", 100) + "none", 2, 105);
        BENCH.refuses("eval " + Bench.repeat("let x : ", 101) + "Prop", 3, 5 + 8 * 101);
        BENCH.refuses("eval " + Bench.repeat("let x : Prop := ", 101) + "Prop", 3, 5 + 16 * 100 + 8);
        BENCH.refuses("eval " + Bench.repeat("fun (x : ", 101) + "Prop", 3, 5 + 9 * 101);
        BENCH.refuses("inductive I (x : " + Bench.repeat("(", 100) + "Prop", 3, 17 + 100);
    }

    private static void nestsIn(String before, String opening, String inner, String closing, String behind) {
        String text = before + Bench.repeat(opening, 100) + inner + Bench.repeat(closing, 100) + behind;
        BENCH.takes(text);
        text = before + Bench.repeat(opening, 101) + inner + Bench.repeat(closing, 101) + behind;
        Bench.due("101 times " + opening, BENCH.read(text), 0);
        Bench.due("fault of 101 times " + opening, BENCH.kernel().fault(0), 3);
    }

    private static void firstFaultComesFirst() {
        BENCH.renew();
        BENCH.refusesAt("axiom a : none @.", 2, "none");
        BENCH.refusesAt("axiom a : Prop @ none.", 1, "@");
        BENCH.refusesAt("check Prop Prop : none.", 2, "none");
        BENCH.refuses("check Prop Prop : Prop", 1, 22);
        BENCH.refuses("check Prop Prop : Prop.", 5, 0);
    }
}
