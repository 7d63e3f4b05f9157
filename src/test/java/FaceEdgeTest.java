import java.util.NoSuchElementException;

/** The edges of each promise: the least and the greatest argument, those beside them, and what a refused call leaves. */
public final class FaceEdgeTest {
    private static final int[] FAR = {Integer.MIN_VALUE, Integer.MIN_VALUE + 1, -65536, -256, -2, -1};
    private static final int[] FAR_UP = {256, 65535, 65536, 65537, Integer.MAX_VALUE - 1, Integer.MAX_VALUE};
    private static final Bench BENCH = new Bench();

    public static void main(String[] args) {
        newObject();
        feed();
        feedAtTheEnd();
        end();
        endOfText();
        read();
        fault();
        reset();
        constant();
        show();
        showRec();
        out();
        outOfMostBytes();
        count();
        Bench.finish(FaceEdgeTest.class);
    }

    /** Every call that has nothing to tell, of an object without anything. */
    private static void isEmpty() {
        FamilyKernel kernel = BENCH.kernel();
        for (int k : new int[] {Integer.MIN_VALUE, -1, 0, 1, Integer.MAX_VALUE}) {
            for (int what = -1; what <= 8; what++) {
                int asked = what;
                BENCH.throwsAndKeeps("constant", NoSuchElementException.class, () -> kernel.constant(k, asked));
                BENCH.throwsAndKeeps("show", NoSuchElementException.class, () -> kernel.show(k, asked));
                BENCH.throwsAndKeeps("showRec", NoSuchElementException.class, () -> kernel.showRec(k, asked));
            }
        }
        Bench.due("reset()", kernel.reset(), 0);
        Bench.due("read()", kernel.read(), 0);
        for (int what = 0; what <= 4; what++) {
            if (what != 2) {
                Bench.due("count(" + what + ")", kernel.count(what), 0);
            }
        }
    }

    private static void newObject() {
        BENCH.renew();
        isEmpty();
        Bench.due("count(2)", BENCH.kernel().count(2), 0);
        Bench.due("count(5)", BENCH.kernel().count(5), 0);
        BENCH.throwsAndKeeps("out(0)", IndexOutOfBoundsException.class, () -> BENCH.kernel().out(0));
        BENCH.throwsAndKeeps("end(1)", IllegalArgumentException.class, () -> BENCH.kernel().end(1));
        Bench.due("end(0)", BENCH.kernel().end(0), 0);
        // One object has nothing of another one.
        BENCH.takes("axiom a : Prop. eval a.", 2);
        BENCH.feed("axiom");
        BENCH.renew();
        isEmpty();
    }

    private static void feed() {
        BENCH.renew();
        FamilyKernel kernel = BENCH.kernel();
        // The bytes 0 and 255 and those beside the sign of a number.
        Bench.due("feed", kernel.feed(Integer.MIN_VALUE, -1, 0, 1, Integer.MAX_VALUE), 20);
        Bench.due("end", kernel.end(0), 0);
        // "axio" "m a%" then 255 .. in the comment, a line's end, ": Pr" "op. "
        Bench.due("feed", kernel.feed(0x6178696f, 0x6d206125, 0xffff800a, 0x3a205072, 0x6f702e20), 20);
        Bench.due("read()", kernel.read(), 1);
        BENCH.shows(0, 0, "a");
        // Each of the 20 places of a call is where it belongs.
        for (int place = 0; place < 20; place++) {
            int[] words = {0x20202020, 0x20202020, 0x20202020, 0x20202020, 0x20202020};
            words[place / 4] = 0x20202020 + (0x20 << 8 * (3 - place % 4));
            kernel.feed(words[0], words[1], words[2], words[3], words[4]);
            Bench.due("read()", kernel.read(), 0);
            Bench.due("fault(0)", kernel.fault(0), 1);
            Bench.due("fault(1)", kernel.fault(1), place);
        }
    }

    /** Room for 21, 20 and 19 bytes; what is refused leaves the TAPE as it was. */
    private static void feedAtTheEnd() {
        for (int room = 18; room <= 22; room++) {
            BENCH.renew();
            FamilyKernel kernel = BENCH.kernel();
            BENCH.feed("axiom a : Prop. " + " ".repeat(65504));
            Bench.due("end", kernel.end(65536 - room), 65536 - room);
            if (room >= 20) {
                Bench.due("room for " + room, kernel.feed(0x20202020, 0x20202020, 0x20202020, 0x20202020, 0x2020202e), 65556 - room);
                Bench.due("count(4)", kernel.count(4), 65556 - room);
            }
            BENCH.throwsAndKeeps("no room", IllegalStateException.class, () -> kernel.feed(0, 0, 0, 0, 0));
            BENCH.throwsAndKeeps("no room", IllegalStateException.class, () -> kernel.feed(-1, -1, -1, -1, -1));
            Bench.due("read()", kernel.read(), 1);
            Bench.due("fault(0)", kernel.fault(0), room >= 20 ? 1 : 0);
            Bench.due("fault(1)", kernel.fault(1), room >= 20 ? 65555 - room : 0);
            Bench.due("feed behind read", kernel.feed(0, 0, 0, 0, 0), 20);
        }
        // A TAPE of all 65,536 bytes: the last one counts, and a fault can stand at 65,535 and at the end.
        BENCH.renew();
        BENCH.feed(" ".repeat(65536 - 15) + "axiom a : Prop.");
        Bench.due("count(4)", BENCH.kernel().count(4), 65536);
        Bench.due("read()", BENCH.kernel().read(), 1);
        BENCH.refuses(" ".repeat(65535) + ".", 1, 65535);
        BENCH.refuses("eval" + " ".repeat(65532), 1, 65536);
        BENCH.takes("%" + "x".repeat(65535), 0);
    }

    private static void end() {
        BENCH.renew();
        FamilyKernel kernel = BENCH.kernel();
        for (int length : new int[] {0, 20, 40}) {
            for (int far : FAR) {
                BENCH.throwsAndKeeps("end(" + far + ")", IllegalArgumentException.class, () -> kernel.end(far));
            }
            for (int far : FAR_UP) {
                BENCH.throwsAndKeeps("end(" + far + ")", IllegalArgumentException.class, () -> kernel.end(far));
            }
            BENCH.throwsAndKeeps("end of one more", IllegalArgumentException.class, () -> kernel.end(length + 1));
            Bench.due("end of all", kernel.end(length), length);
            Bench.due("count(4)", kernel.count(4), length);
            kernel.feed(0x20202020, 0x20202020, 0x20202020, 0x20202020, 0x20202020);
        }
        for (int length = 60; length >= 0; length--) {
            Bench.due("end(" + length + ")", kernel.end(length), length);
            Bench.due("count(4)", kernel.count(4), length);
            int more = length + 1;
            BENCH.throwsAndKeeps("what was cut is gone", IllegalArgumentException.class, () -> kernel.end(more));
        }
        Bench.due("end(0) again", kernel.end(0), 0);
        Bench.due("feed behind end(0)", kernel.feed(0, 0, 0, 0, 0), 20);
    }

    private static void endOfText() {
        String text = "axiom ab : Prop. ";
        for (int length = 0; length <= text.length(); length++) {
            BENCH.renew();
            BENCH.feed(text);
            BENCH.kernel().end(length);
            // P, Pr and Pro are NAMES that are not known, elsewhere a part of it can't stand before the end.
            int fault = length == 0 || length >= 16 ? 0 : length >= 12 && length <= 14 ? 2 : 1;
            Bench.due("read()", BENCH.kernel().read(), length >= 16 ? 1 : 0);
            Bench.due("fault(0)", BENCH.kernel().fault(0), fault);
            Bench.due("tape", BENCH.kernel().count(4), 0);
        }
        // What was cut off does not come back with the next feed.
        BENCH.renew();
        BENCH.feed("axiom a : Prop. axiom b : Prop.");
        BENCH.kernel().end(6);
        BENCH.feed("c : Prop.");
        Bench.due("read()", BENCH.kernel().read(), 1);
        BENCH.shows(0, 0, "c");
        Bench.due("constants", BENCH.kernel().count(0), 1);
    }

    private static void read() {
        BENCH.renew();
        FamilyKernel kernel = BENCH.kernel();
        Bench.due("read of nothing", kernel.read(), 0);
        BENCH.takes("axiom a : Prop.", 1);
        Bench.due("a second read of it", kernel.read(), 0);
        Bench.due("constants", kernel.count(0), 1);
        // The first, the middle and the last of three is wrong: those before it stay, those behind it do not come.
        String[] names = {"x", "y", "z"};
        for (int wrong = 0; wrong < 3; wrong++) {
            BENCH.renew();
            StringBuilder text = new StringBuilder(" ");
            for (int i = 0; i < 3; i++) {
                text.append("axiom ").append(names[i]).append(i == wrong ? " : Prop Prop. " : " : Prop. ");
            }
            Bench.due(text.toString(), BENCH.read(text.toString()), wrong);
            Bench.due("fault", BENCH.kernel().fault(0), 5);
            Bench.due("place", BENCH.kernel().fault(1), text.indexOf("axiom " + names[wrong]));
            Bench.due("constants", BENCH.kernel().count(0), wrong);
            Bench.due("declarations", BENCH.kernel().count(1), wrong);
            Bench.due("sizes", BENCH.kernel().count(3), wrong);
            Bench.due("tape", BENCH.kernel().count(4), 0);
            BENCH.takes("axiom " + names[wrong] + " : Prop.");
        }
        evalInTexts();
    }

    private static void evalInTexts() {
        BENCH.renew();
        BENCH.takes("axiom a : Prop. eval a -> a. eval a.", 3);
        Bench.due("OUT of the last eval", BENCH.out(), "a");
        BENCH.takes("eval a -> a. eval a a. eval a.", 1, 5, 13);
        Bench.due("OUT of the eval before the fault", BENCH.out(), "a -> a");
        BENCH.refuses("eval a -> a", 1, 11);
        BENCH.takes("check a : Prop. axiom b : a. def c : a := b. theorem d : a := c.", 4);
        BENCH.takes("eval a.");
        BENCH.takes("check a -> a : Prop.");
        Bench.due("OUT behind others", BENCH.out(), "a");
        BENCH.kernel().reset();
        Bench.due("OUT behind reset", BENCH.out(), "a");
        BENCH.kernel().read();
        Bench.due("OUT behind a read of nothing", BENCH.out(), "a");
    }

    private static void fault() {
        BENCH.renew();
        FamilyKernel kernel = BENCH.kernel();
        for (int round = 0; round < 3; round++) {
            for (int far : FAR) {
                Bench.due("fault(" + far + ")", kernel.fault(far), -1);
            }
            for (int far : FAR_UP) {
                Bench.due("fault(" + far + ")", kernel.fault(far), -1);
            }
            Bench.due("fault(2)", kernel.fault(2), -1);
            Bench.due("fault(0)", kernel.fault(0), round == 1 ? 2 : 0);
            Bench.due("fault(1)", kernel.fault(1), round == 1 ? 7 : 0);
            BENCH.read(round == 0 ? "  eval none." : "axiom b : Prop.");
        }
        // All ten, each at its place.
        BENCH.renew();
        BENCH.takes("axiom a : Prop. inductive or (p q : Prop) : Prop := { | l : p -> or p q | r : q -> or p q }.", 2);
        BENCH.refuses(" eval @.", 1, 6);
        BENCH.refuses(" eval b.", 2, 6);
        BENCH.refuses(" eval Type 100.", 3, 11);
        BENCH.refuses(" check a : Type 0.", 4, 1);
        BENCH.refuses(" eval a a.", 5, 1);
        BENCH.refuses(" axiom b : (fun (p : Prop) (x : p) => x).", 6, 1);
        BENCH.refuses(" eval Type 99.", 7, 1);
        BENCH.refuses(" inductive b : a := { }.", 8, 1);
        BENCH.refuses(" eval rec or Type 0.", 9, 1);
        BENCH.refuses(" eval a" + " a".repeat(1500) + ".", 10, 1);
        // It stays until the next read, whatever else is called.
        kernel = BENCH.kernel();
        kernel.reset();
        BENCH.feed("axiom");
        kernel.count(0);
        kernel.end(0);
        Bench.due("fault(0)", kernel.fault(0), 10);
        Bench.due("fault(1)", kernel.fault(1), 1);
        kernel.read();
        Bench.due("fault(0)", kernel.fault(0), 0);
        Bench.due("fault(1)", kernel.fault(1), 0);
    }

    private static void reset() {
        BENCH.renew();
        FamilyKernel kernel = BENCH.kernel();
        BENCH.takes("inductive nat : Type 0 := { | O : nat | S : nat -> nat }. axiom a : Prop. eval O. eval Prop -> Prop.", 4);
        BENCH.feed("axiom a : Prop.");
        Bench.due("reset()", kernel.reset(), 4);
        Bench.due("tape", kernel.count(4), 15);
        Bench.due("work", kernel.count(2), 3);
        Bench.due("OUT", BENCH.out(), "Prop -> Prop");
        Bench.due("read() of what was fed before", kernel.read(), 1);
        BENCH.tells(0, 0, 1, 0, 0, 0, 0, 0, 0);
        Bench.due("declarations", kernel.count(1), 1);
        BENCH.refuses("eval nat.", 2, 5);
        BENCH.refuses("eval rec nat Prop.", 2, 9);
        Bench.due("reset()", kernel.reset(), 1);
        isEmpty();
        BENCH.takes("inductive nat : Type 0 := { | O : nat | S : nat -> nat }.");
        BENCH.evaluates("rec nat Type 0 (fun (x : nat) => nat) O (fun (x y : nat) => x) (S (S O))", "S O");
    }

    private static void family() {
        BENCH.renew();
        BENCH.takes("axiom a : Prop. def d : Type 0 := Prop. theorem t : Type 0 := Prop. "
                + "inductive nat : Type 0 := { | O : nat | S : nat -> nat }. "
                + "inductive or (p q : Prop) : Prop := { | l : p -> or p q | r : q -> or p q }.", 5);
    }

    private static void constant() {
        family();
        FamilyKernel kernel = BENCH.kernel();
        BENCH.tells(0, 0, 1, 0, 0, 0, 0, 0, 0);
        BENCH.tells(1, 1, 1, 1, 0, 0, 0, 0, 0);
        BENCH.tells(2, 2, 1, 1, 0, 0, 0, 0, 0);
        BENCH.tells(3, 3, 1, 0, 0, 0, 2, 0, 0);
        BENCH.tells(5, 4, 3, 0, 0, 0, 0, 1, 1);
        BENCH.tells(8, 4, 11, 0, 0, 0, 0, 1, 0);
        int number = kernel.count(0);
        for (int k = -1; k <= number; k++) {
            for (int what = -1; what <= 8; what++) {
                int constant = k;
                int asked = what;
                String call = "constant(" + k + ", " + what + ")";
                if (k < 0 || k >= number) {
                    BENCH.throwsAndKeeps(call, NoSuchElementException.class, () -> kernel.constant(constant, asked));
                } else if (what < 0 || what > 7) {
                    BENCH.throwsAndKeeps(call, IllegalArgumentException.class, () -> kernel.constant(constant, asked));
                } else {
                    Bench.due(call, kernel.constant(k, what) >= 0, true);
                }
            }
        }
        farCalls((k, what) -> kernel.constant(k, what), "constant");
    }

    private interface Asking {
        void ask(int k, int what);
    }

    /** NoSuchElementException is named first: it is thrown even if what is another one. */
    private static void farCalls(Asking asking, String name) {
        for (int far : FAR) {
            BENCH.throwsAndKeeps(name + "(0, " + far + ")", IllegalArgumentException.class, () -> asking.ask(0, far));
            BENCH.throwsAndKeeps(name + "(" + far + ", 0)", NoSuchElementException.class, () -> asking.ask(far, 0));
            BENCH.throwsAndKeeps(name + "(" + far + ", far)", NoSuchElementException.class, () -> asking.ask(far, far));
        }
        for (int far : FAR_UP) {
            BENCH.throwsAndKeeps(name + "(0, " + far + ")", IllegalArgumentException.class, () -> asking.ask(0, far));
            BENCH.throwsAndKeeps(name + "(" + far + ", 0)", NoSuchElementException.class, () -> asking.ask(far, 0));
            BENCH.throwsAndKeeps(name + "(" + far + ", far)", NoSuchElementException.class, () -> asking.ask(far, far));
        }
    }

    private static void show() {
        family();
        FamilyKernel kernel = BENCH.kernel();
        BENCH.takes("eval Prop.");
        int number = kernel.count(0);
        for (int k = -1; k <= number; k++) {
            for (int what = -1; what <= 3; what++) {
                int constant = k;
                int asked = what;
                String call = "show(" + k + ", " + what + ")";
                boolean none = k < 0 || k >= number || what == 2 && k != 1 && k != 2;
                if (none) {
                    BENCH.throwsAndKeeps(call, NoSuchElementException.class, () -> kernel.show(constant, asked));
                } else if (what < 0 || what > 2) {
                    BENCH.throwsAndKeeps(call, IllegalArgumentException.class, () -> kernel.show(constant, asked));
                } else {
                    int length = kernel.show(k, what);
                    Bench.due(call, length, kernel.count(5));
                    Bench.due(call, length > 0, true);
                }
            }
        }
        farCalls((k, what) -> kernel.show(k, what), "show");
        BENCH.shows(number - 1, 0, "r");
        BENCH.shows(number - 1, 1, "forall (x0 : Prop), forall (x1 : Prop), x1 -> or x0 x1");
        BENCH.shows(1, 2, "Prop");
    }

    private static void showRec() {
        family();
        FamilyKernel kernel = BENCH.kernel();
        BENCH.takes("eval Prop.");
        for (int k = -1; k <= kernel.count(0); k++) {
            for (int s = -1; s <= 101; s++) {
                int constant = k;
                int sort = s;
                String call = "showRec(" + k + ", " + s + ")";
                if (k == 3 && s >= 0 && s <= 100 || k == 6 && s == 0) {
                    Bench.due(call, kernel.showRec(k, s), kernel.count(5));
                    String wanted = s == 0 ? "Prop" : "Type " + (s - 1);
                    Bench.due(call, BENCH.out().contains(" -> " + wanted + ")"), true);
                } else {
                    BENCH.throwsAndKeeps(call, NoSuchElementException.class, () -> kernel.showRec(constant, sort));
                }
            }
        }
        for (int far : FAR) {
            BENCH.throwsAndKeeps("showRec", NoSuchElementException.class, () -> kernel.showRec(3, far));
            BENCH.throwsAndKeeps("showRec", NoSuchElementException.class, () -> kernel.showRec(far, 0));
        }
        for (int far : FAR_UP) {
            BENCH.throwsAndKeeps("showRec", NoSuchElementException.class, () -> kernel.showRec(3, far));
            BENCH.throwsAndKeeps("showRec", NoSuchElementException.class, () -> kernel.showRec(far, 0));
        }
    }

    private static void out() {
        family();
        FamilyKernel kernel = BENCH.kernel();
        BENCH.throwsAndKeeps("out(0) of nothing", IndexOutOfBoundsException.class, () -> kernel.out(0));
        for (int k : new int[] {0, 3, 1}) {
            int length = kernel.show(k, 0);
            for (int i = -2; i <= length + 2; i++) {
                int index = i;
                if (i < 0 || i >= length) {
                    BENCH.throwsAndKeeps("out(" + i + ")", IndexOutOfBoundsException.class, () -> kernel.out(index));
                } else {
                    Bench.due("out(" + i + ")", kernel.out(i), (int) (k == 0 ? "a" : k == 3 ? "nat" : "d").charAt(i));
                }
            }
        }
        for (int far : FAR) {
            BENCH.throwsAndKeeps("out(" + far + ")", IndexOutOfBoundsException.class, () -> kernel.out(far));
        }
        for (int far : FAR_UP) {
            BENCH.throwsAndKeeps("out(" + far + ")", IndexOutOfBoundsException.class, () -> kernel.out(far));
        }
    }

    /** OUT that would be 65,535, 65,536 and 65,537 bytes: all of it, all of it, and all but the last byte. */
    private static void outOfMostBytes() {
        for (int whole = 65535; whole <= 65537; whole++) {
            BENCH.renew();
            String type = "T".repeat(31);
            String value = "u".repeat(31);
            BENCH.takes("axiom " + type + " : Type 0. axiom " + value + " : " + type + ".", 2);
            BENCH.takes("def F : Type 0 := " + (type + " -> ").repeat(15) + type + ".");
            BENCH.takes("def c : F := fun (" + "a ".repeat(15) + ": " + type + ") => " + value + ".");
            BENCH.takes("axiom g : " + "F -> ".repeat(9) + "Prop. def G : Prop := g" + " c".repeat(9) + ".", 2);
            StringBuilder function = new StringBuilder(" (");
            for (int i = 0; i < 15; i++) {
                function.append("fun (x").append(i).append(" : ").append(type).append(") => ");
            }
            function.append(value).append(')');
            String most = "h" + (" (g" + function.toString().repeat(9) + ")").repeat(9) + function.toString().repeat(8);
            String names = filler(whole - most.length());
            int number = names.trim().split(" ").length;
            BENCH.takes("axiom h : " + "Prop -> ".repeat(9) + "F -> ".repeat(8) + "Prop -> ".repeat(number) + "Prop.");
            BENCH.takes("eval h" + " G".repeat(9) + " c".repeat(8) + names + ".");
            String due = (most + names).substring(0, Math.min(whole, 65536));
            Bench.due("the whole", (most + names).length(), whole);
            Bench.due("count(5)", BENCH.kernel().count(5), due.length());
            Bench.due("OUT", BENCH.out(), due);
            Bench.due("out(last)", BENCH.kernel().out(due.length() - 1), (int) due.charAt(due.length() - 1));
            BENCH.throwsAndKeeps("out behind it", IndexOutOfBoundsException.class, () -> BENCH.kernel().out(due.length()));
        }
    }

    /** NAMES of Props, each with a blank before it, of that length together. */
    private static String filler(int length) {
        StringBuilder names = new StringBuilder();
        while (names.length() < length) {
            int left = length - names.length();
            int next = left > 64 ? 31 : left > 32 ? 15 : left - 1;
            if (!names.toString().contains(" " + name(next) + " ")) {
                BENCH.read("axiom " + name(next) + " : Prop.");
            }
            names.append(' ').append(name(next));
        }
        return names.toString();
    }

    private static String name(int length) {
        return "m" + "n".repeat(length - 1);
    }

    private static void count() {
        BENCH.renew();
        FamilyKernel kernel = BENCH.kernel();
        for (int round = 0; round < 2; round++) {
            for (int far : FAR) {
                Bench.due("count(" + far + ")", kernel.count(far), -1);
            }
            for (int far : FAR_UP) {
                Bench.due("count(" + far + ")", kernel.count(far), -1);
            }
            Bench.due("count(6)", kernel.count(6), -1);
            Bench.due("count(5)", kernel.count(5), round == 0 ? 0 : 12);
            Bench.due("count(1)", kernel.count(1), round == 0 ? 0 : 3);
            Bench.due("count(0)", kernel.count(0), round == 0 ? 0 : 1);
            BENCH.read("axiom a : Prop. check a : Prop. eval Prop -> Prop. eval");
        }
        // DECLARATIONS accepted, of all reads since the latest reset; WORK of the latest alone.
        Bench.due("count(1)", kernel.count(1), 3);
        kernel.reset();
        Bench.due("count(1)", kernel.count(1), 0);
        BENCH.takes("eval Prop -> Prop -> Prop. eval Prop. check Prop : Type 0.", 3);
        Bench.due("count(1)", kernel.count(1), 3);
        Bench.due("count(2)", kernel.count(2), 1);
        BENCH.costs("eval Prop -> Prop -> Prop.", 12);
        BENCH.refuses("eval Prop Prop.", 5, 0);
        Bench.due("count(2)", kernel.count(2), 12);
        BENCH.takes("", 0);
        Bench.due("count(2) behind a read of nothing", kernel.count(2), 12);
        BENCH.costs("eval Prop.", 0);
        Bench.due("count(1)", kernel.count(1), 5);
    }
}
