/** Promises 4 to 6 and 11: read, fault, reset and count. */
public final class ReadTest {
    private static final Bench BENCH = new Bench();

    public static void main(String[] args) {
        readsUpToTheFault();
        tellsFaults();
        resets();
        counts();
        Bench.finish(ReadTest.class);
    }

    private static void readsUpToTheFault() {
        BENCH.renew();
        BENCH.takes("", 0);
        BENCH.takes(" \t\r\n % only a comment", 0);
        BENCH.takes("axiom a : Prop. axiom b : a.", 2);
        String text = "axiom c : Prop. eval a. axiom d : Type 0 Prop. axiom e : Prop. eval c.";
        Bench.due(text, BENCH.read(text), 2);
        Bench.due("fault", BENCH.kernel().fault(0), 5);
        Bench.due("place", BENCH.kernel().fault(1), text.indexOf("axiom d"));
        Bench.due("constants", BENCH.kernel().count(0), 3);
        Bench.due("out stays that of the last eval before the fault", BENCH.out(), "a");
        Bench.due("the tape is empty", BENCH.kernel().count(4), 0);
        BENCH.refuses("eval c : Prop.", 1, 7);
        Bench.due("out is as it was", BENCH.out(), "a");
        // What failed is not known: d and its like can be declared anew.
        BENCH.takes("axiom d : Prop. axiom e : Prop.", 2);
        BENCH.refuses("inductive I : Prop := { | i : I | j : Prop }.", 8, 0);
        BENCH.takes("inductive I : Prop := { | i : I | j : I }.");
        Bench.due("constants", BENCH.kernel().count(0), 8);
    }

    private static void tellsFaults() {
        BENCH.renew();
        BENCH.refuses("  axiom x : Type 0 Prop.", 5, 2);
        Bench.due("fault(-1)", BENCH.kernel().fault(-1), -1);
        Bench.due("fault(2)", BENCH.kernel().fault(2), -1);
        BENCH.takes("axiom x : Prop.");
        BENCH.refuses("axiom y : z.", 2, 10);
        Bench.due("read of nothing", BENCH.kernel().read(), 0);
        Bench.due("fault(0) behind a read of nothing", BENCH.kernel().fault(0), 0);
        Bench.due("fault(1) behind a read of nothing", BENCH.kernel().fault(1), 0);
    }

    private static void resets() {
        BENCH.renew();
        BENCH.takes("inductive nat : Type 0 := { | O : nat | S : nat -> nat }. eval S O.", 2);
        Bench.due("reset()", BENCH.kernel().reset(), 3);
        Bench.due("reset() again", BENCH.kernel().reset(), 0);
        Bench.due("out stays", BENCH.out(), "S O");
        Bench.due("constants", BENCH.kernel().count(0), 0);
        Bench.due("declarations", BENCH.kernel().count(1), 0);
        Bench.due("work stays", BENCH.kernel().count(2), 2);
        Bench.due("sizes", BENCH.kernel().count(3), 0);
        BENCH.refuses("eval O.", 2, 5);
        BENCH.takes("axiom nat : Prop. axiom S : nat.", 2);
        BENCH.shows(1, 1, "nat");
        BENCH.feed("abc");
        BENCH.kernel().reset();
        Bench.due("the tape stays", BENCH.kernel().count(4), 3);
    }

    private static void counts() {
        BENCH.renew();
        FamilyKernel kernel = BENCH.kernel();
        BENCH.takes("axiom f : Prop -> Prop. check f : Prop -> Prop. eval f.", 3);
        Bench.due("count(0)", kernel.count(0), 1);
        Bench.due("count(1)", kernel.count(1), 3);
        Bench.due("count(2)", kernel.count(2), 0);
        Bench.due("count(3)", kernel.count(3), 3);
        Bench.due("count(5)", kernel.count(5), 1);
        Bench.due("count(6)", kernel.count(6), -1);
        Bench.due("count(-1)", kernel.count(-1), -1);
        BENCH.costs("check fun (x : Prop) => f x : Prop -> Prop.", 8);
        BENCH.refuses("check f : Prop.", 4, 0);
        Bench.due("work of the latest that was accepted", kernel.count(2), 8);
        Bench.due("declarations", kernel.count(1), 4);
        BENCH.feed("axiom");
        Bench.due("count(4)", kernel.count(4), 5);
        kernel.show(0, 1);
        Bench.due("count(5) behind show", kernel.count(5), "Prop -> Prop".length());
    }
}
