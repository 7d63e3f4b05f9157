import java.io.IOException;
import java.nio.charset.StandardCharsets;
import java.nio.file.Files;
import java.nio.file.Path;
import java.util.List;
import java.util.NoSuchElementException;

/**
 * Runs over many declarations, right and wrong, on which a second checker, written in another
 * language and by plain recursion, gave the answers that stand in src/test/data/agreed.txt. It shares
 * this one's reading of the document: it guards the workings, not the reading. A line there begins with
 * what it is: new (an object), ? a text, = the answers of read, fault and count, " OUT, ! what constant,
 * show and showRec tell of each constant.
 */
public final class AgreedTest {
    private static final Bench BENCH = new Bench();

    public static void main(String[] args) throws IOException {
        List<String> lines = Files.readAllLines(Path.of("src/test/data/agreed.txt"), StandardCharsets.ISO_8859_1);
        String text = "";
        String told = "";
        for (int i = 0; i < lines.size(); i++) {
            String line = lines.get(i);
            String rest = line.substring(Math.min(2, line.length()));
            if (line.equals("new")) {
                BENCH.renew();
            } else if (line.startsWith("?")) {
                text = unescaped(rest);
                int taken = BENCH.read(text);
                Bench.due(text, answers(taken), lines.get(i + 1).substring(2));
                told = "";
            } else if (line.startsWith("\"")) {
                Bench.due("OUT of " + text, BENCH.out(), rest);
            } else if (line.startsWith("!")) {
                told += rest + "\n";
                boolean last = i + 1 == lines.size() || !lines.get(i + 1).startsWith("!");
                if (last) {
                    Bench.due("the constants", constants(), told);
                }
            }
        }
        Bench.finish(AgreedTest.class);
    }

    private static String unescaped(String line) {
        StringBuilder text = new StringBuilder();
        for (int i = 0; i < line.length(); i++) {
            char sign = line.charAt(i);
            if (sign != '\\') {
                text.append(sign);
            } else if (line.charAt(i + 1) == 'x') {
                text.append((char) Integer.parseInt(line.substring(i + 2, i + 4), 16));
                i += 3;
            } else {
                text.append(line.charAt(i + 1) == 'n' ? '\n' : '\\');
                i++;
            }
        }
        return text.toString();
    }

    private static String answers(int taken) {
        FamilyKernel kernel = BENCH.kernel();
        return taken + " f " + kernel.fault(0) + " " + kernel.fault(1) + " c " + kernel.count(0) + " "
                + kernel.count(1) + " " + kernel.count(2) + " " + kernel.count(3) + " " + kernel.count(5);
    }

    private static String constants() {
        FamilyKernel kernel = BENCH.kernel();
        StringBuilder told = new StringBuilder();
        for (int k = 0; k < kernel.count(0); k++) {
            kernel.show(k, 0);
            told.append(BENCH.out()).append('|').append(kernel.constant(k, 0));
            for (int what = 1; what < 8; what++) {
                told.append(' ').append(kernel.constant(k, what));
            }
            kernel.show(k, 1);
            told.append('\n').append(BENCH.out()).append('\n');
            if (kernel.constant(k, 2) > 0) {
                kernel.show(k, 2);
                told.append(BENCH.out()).append('\n');
            }
            if (kernel.constant(k, 0) == 3) {
                for (int sort : new int[] {0, 1, 100}) {
                    told.append(recursor(k, sort)).append('\n');
                }
            }
        }
        return told.toString();
    }

    private static String recursor(int k, int sort) {
        try {
            BENCH.kernel().showRec(k, sort);
            return BENCH.out();
        } catch (NoSuchElementException none) {
            return "none";
        }
    }
}
