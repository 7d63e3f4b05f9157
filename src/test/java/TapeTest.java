/** Promises 1 to 3: a new object, feed and end. */
public final class TapeTest {
    public static void main(String[] args) {
        newObject();
        feedsBytes();
        feedRefuses();
        ends();
        Bench.finish(TapeTest.class);
    }

    private static void newObject() {
        FamilyKernel kernel = new FamilyKernel();
        for (int what = 0; what <= 5; what++) {
            Bench.due("new: count(" + what + ")", kernel.count(what), 0);
        }
        Bench.due("new: fault(0)", kernel.fault(0), 0);
        Bench.due("new: fault(1)", kernel.fault(1), 0);
        Bench.throwsIt("new: out(0)", IndexOutOfBoundsException.class, () -> kernel.out(0));
        Bench.throwsIt("new: constant(0, 0)", java.util.NoSuchElementException.class,
                () -> kernel.constant(0, 0));
        Bench.due("new: reset()", kernel.reset(), 0);
        Bench.due("new: read()", kernel.read(), 0);
    }

    private static void feedsBytes() {
        FamilyKernel kernel = new FamilyKernel();
        // "axio" "m ab" " : P" "rop." and four blanks: the highest byte comes first.
        Bench.due("feed", kernel.feed(0x6178696f, 0x6d206162, 0x203a2050, 0x726f702e, 0x20202020), 20);
        Bench.due("feed twice", kernel.feed(0x20202020, 0x20202020, 0x20202020, 0x20202020, 0x20202020), 40);
        Bench.due("count(4)", kernel.count(4), 40);
        Bench.due("read", kernel.read(), 1);
        Bench.due("count(4) behind read", kernel.count(4), 0);
        Bench.due("show", kernel.show(0, 0), 2);
        Bench.due("out(0)", kernel.out(0), 97);
        Bench.due("out(1)", kernel.out(1), 98);
        // A byte above 127 is no sign of the text, and is not taken for another one.
        kernel.feed(0x61786920 | 0x80000000, -1, -1, -1, -1);
        Bench.due("read of high bytes", kernel.read(), 0);
        Bench.due("fault of high bytes", kernel.fault(0), 1);
        Bench.due("place of high bytes", kernel.fault(1), 0);
    }

    private static void feedRefuses() {
        FamilyKernel kernel = new FamilyKernel();
        for (int length = 20; length <= 65520; length += 20) {
            Bench.due("feed to " + length, kernel.feed(0, 0, 0, 0, 0), length);
        }
        Bench.throwsIt("feed with room for 16", IllegalStateException.class,
                () -> kernel.feed(0, 0, 0, 0, 0));
        Bench.due("count(4) of a full tape", kernel.count(4), 65520);
        Bench.due("end(65517)", kernel.end(65517), 65517);
        Bench.throwsIt("feed with room for 19", IllegalStateException.class,
                () -> kernel.feed(0, 0, 0, 0, 0));
        kernel.end(65516);
        Bench.due("feed with room for 20", kernel.feed(0, 0, 0, 0, 0), 65536);
        Bench.due("read of 0 bytes", kernel.read(), 0);
        Bench.due("fault of 0 bytes", kernel.fault(0), 1);
    }

    private static void ends() {
        FamilyKernel kernel = new FamilyKernel();
        Bench.due("end(0) of nothing", kernel.end(0), 0);
        Bench.throwsIt("end(1) of nothing", IllegalArgumentException.class, () -> kernel.end(1));
        kernel.feed(0x61616161, 0x61616161, 0x61616161, 0x61616161, 0x61616161);
        Bench.throwsIt("end(-1)", IllegalArgumentException.class, () -> kernel.end(-1));
        Bench.throwsIt("end(21)", IllegalArgumentException.class, () -> kernel.end(21));
        Bench.throwsIt("end(least)", IllegalArgumentException.class, () -> kernel.end(Integer.MIN_VALUE));
        Bench.due("end(20)", kernel.end(20), 20);
        Bench.due("end(3)", kernel.end(3), 3);
        Bench.due("count(4)", kernel.count(4), 3);
        Bench.throwsIt("end(4) behind end(3)", IllegalArgumentException.class, () -> kernel.end(4));
        Bench bench = new Bench();
        bench.feed("axiom a : Prop. axiom b : Prop.");
        bench.kernel().end(15);
        Bench.due("read of what end left", bench.kernel().read(), 1);
    }
}
