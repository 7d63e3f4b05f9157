import java.util.List;
import java.util.NoSuchElementException;

/** The class and a second checker read the same texts, right and wrong ones, and must agree in all. */
public final class PlainTest {
    private static final int RUNS = 250;
    private static final int TEXTS = 40;
    /** The second checker recurses as deep as a TERM is long. */
    private static final long STACK = 1L << 26;
    /** How many texts met each FAULT: a test that meets none of a kind says nothing of it. */
    private static final int[] MET = new int[11];

    private static Bench bench;
    private static PlainKernel plain;
    private static int ended;

    public static void main(String[] args) throws InterruptedException {
        Thread thread = new Thread(null, PlainTest::runAll, "plain", STACK);
        thread.start();
        thread.join();
        Bench.due("runs that came to their end", ended, RUNS);
        for (int fault = 0; fault < MET.length; fault++) {
            Bench.due("texts that met fault " + fault, MET[fault] > 0, true);
        }
        Bench.finish(PlainTest.class);
    }

    private static void runAll() {
        for (int run = 0; run < RUNS; run++) {
            bench = new Bench();
            plain = new PlainKernel();
            PlainTexts texts = new PlainTexts(run);
            PlainTexts.PRELUDE.forEach(PlainTest::read);
            int depth = 2 + run % 5;
            for (int i = 0; i < TEXTS; i++) {
                read(text(texts, depth));
            }
            tellAll();
            Bench.due("reset", bench.kernel().reset(), plain.reset());
            PlainTexts.PRELUDE.forEach(PlainTest::read);
            ended++;
        }
    }

    private static String text(PlainTexts texts, int depth) {
        switch (texts.below(8)) {
            case 0: return step(texts);
            case 1: return texts.declaration(depth) + " " + texts.declaration(depth);
            case 2: return texts.great();
            case 3: case 4: return texts.disturbed(texts.declaration(depth));
            default: return texts.declaration(depth);
        }
    }

    /** A text that asks for a RULE's step, or for a recursor. */
    private static String step(PlainTexts texts) {
        List<PlainKernel.Constant> constants = plain.constants;
        PlainKernel.Constant constant = constants.get(texts.below(constants.size()));
        int sort = texts.below(3);
        if (constant.kind == 4) {
            String[] step = plain.stepOf(constant, sort);
            return texts.below(2) == 0 ? "eval " + step[0] + "." : "check " + step[0] + " : " + step[1] + ".";
        }
        return "eval rec " + constant.name + (sort == 0 ? " Prop." : " Type " + (sort - 1) + ".");
    }

    private static void read(String text) {
        int taken = bench.read(text);
        FamilyKernel kernel = bench.kernel();
        String got = taken + " fault " + kernel.fault(0) + " at " + kernel.fault(1) + " counts " + kernel.count(0) + " "
                + kernel.count(1) + " " + kernel.count(2) + " " + kernel.count(3) + " out " + bench.out();
        taken = plain.read(text);
        MET[plain.code]++;
        Bench.due(text, got, taken + " fault " + plain.code + " at " + plain.place + " counts "
                + plain.constants.size() + " " + plain.declared + " " + plain.latestWork + " " + plain.sizes
                + " out " + plain.out);
    }

    private static void tellAll() {
        for (int k = 0; k < plain.constants.size(); k++) {
            PlainKernel.Constant due = plain.constants.get(k);
            bench.tells(k, due.kind, due.type.size, due.value == null ? 0 : due.value.size, due.parameters.size(),
                    due.indices, due.members.size(), due.arguments, due.recursive);
            bench.shows(k, 0, due.name);
            bench.shows(k, 1, plain.show(due.type));
            if (due.value != null) {
                bench.shows(k, 2, plain.show(due.value));
            }
            for (int sort : new int[] {0, 1, 2, 100}) {
                tellRecursor(k, sort);
            }
        }
        plain.out = bench.out();
    }

    private static void tellRecursor(int k, int sort) {
        if (plain.constants.get(k).kind == 3 && plain.allows(k, sort)) {
            bench.showsRec(k, sort, plain.show(plain.recursorType(k, sort)));
        } else {
            Bench.throwsIt("showRec(" + k + ", " + sort + ")", NoSuchElementException.class,
                    () -> bench.kernel().showRec(k, sort));
        }
    }
}
