/** The example of README.md, call by call. */
public final class ExampleTest {
    public static void main(String[] args) {
        FamilyKernel kernel = new FamilyKernel();
        String text = "inductive nat : Type 0 := { | O : nat | S : nat -> nat }.\n"
                + "def add : nat -> nat -> nat := fun (a b : nat) =>\n"
                + "  rec nat Type 0 (fun (x : nat) => nat) b (fun (x y : nat) => S y) a.\n"
                + "eval add (S O) (S O).   % OUT is then S (S O)\n"
                + "check add O : nat.\n";
        feed(kernel, text);
        Bench.due("read()", kernel.read(), 3);
        Bench.due("fault(0)", kernel.fault(0), 4);
        Bench.due("fault(1)", kernel.fault(1), text.indexOf("check"));
        Bench.due("count(0)", kernel.count(0), 4);
        Bench.due("OUT", out(kernel, kernel.count(5)), "S (S O)");
        Bench.due("the type of S", out(kernel, kernel.show(2, 1)), "nat -> nat");
        Bench.due("the type of rec nat Prop", out(kernel, kernel.showRec(0, 0)),
                "forall (x0 : nat -> Prop), x0 O -> (forall (x2 : nat), x0 x2 -> x0 (S x2)) -> "
                        + "forall (x3 : nat), x0 x3");
        Bench.due("constant(0, 5)", kernel.constant(0, 5), 2);
        Bench.due("reset()", kernel.reset(), 4);
        Bench.finish(ExampleTest.class);
    }

    static void feed(FamilyKernel kernel, String text) {
        int had = kernel.count(4);
        for (int i = 0; i < text.length(); i += 20) {
            kernel.feed(four(text, i), four(text, i + 4), four(text, i + 8), four(text, i + 12), four(text, i + 16));
        }
        kernel.end(had + text.length());
    }

    /** Four bytes as one number, the highest first; behind the text's end anything will do. */
    static int four(String text, int from) {
        int number = 0;
        for (int i = from; i < from + 4; i++) {
            number = number << 8 | (i < text.length() ? text.charAt(i) : ' ');
        }
        return number;
    }

    static String out(FamilyKernel kernel, int length) {
        StringBuilder shown = new StringBuilder();
        for (int i = 0; i < length; i++) {
            shown.append((char) kernel.out(i));
        }
        return shown.toString();
    }
}
