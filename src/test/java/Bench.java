/** What the tests share: a kernel to work on, and a count of the answers that are not as due. */
final class Bench {
    interface Call {
        void run();
    }

    private static int asked;
    private static int wrong;

    private FamilyKernel kernel = new FamilyKernel();

    FamilyKernel kernel() {
        return kernel;
    }

    void renew() {
        kernel = new FamilyKernel();
    }

    /** Puts the text on the tape and reads it. */
    int read(String text) {
        feed(text);
        return kernel.read();
    }

    /** What is no whole call comes first, so that a text can fill the tape to its last byte. */
    void feed(String text) {
        int first = text.length() % 20;
        if (first > 0) {
            int had = kernel.count(4);
            feedTwenty(text, 0);
            kernel.end(had + first);
        }
        for (int i = first; i < text.length(); i += 20) {
            feedTwenty(text, i);
        }
    }

    private void feedTwenty(String text, int from) {
        kernel.feed(word(text, from), word(text, from + 4), word(text, from + 8), word(text, from + 12),
                word(text, from + 16));
    }

    private static int word(String text, int from) {
        int word = 0;
        for (int i = from; i < from + 4; i++) {
            word = word << 8 | (i < text.length() ? text.charAt(i) & 255 : 32);
        }
        return word;
    }

    /** The text is one declaration (or as many as told), and all is well with it. */
    void takes(String text) {
        takes(text, 1);
    }

    void takes(String text, int declarations) {
        due(text, read(text), declarations);
        due("fault of " + text, kernel.fault(0), 0);
        due("place of " + text, kernel.fault(1), 0);
    }

    /** So many declarations are accepted, the next one has this fault. */
    void takes(String text, int declarations, int fault, int place) {
        due(text, read(text), declarations);
        due("fault of " + text, kernel.fault(0), fault);
        due("place of " + text, kernel.fault(1), place);
    }

    void costs(String text, int work) {
        takes(text);
        due("work of " + text, kernel.count(2), work);
    }

    /** The first declaration of the text has this fault, and changes nothing. */
    void refuses(String text, int fault, int place) {
        String before = state();
        due(text, read(text), 0);
        due("fault of " + text, kernel.fault(0), fault);
        due("place of " + text, kernel.fault(1), place);
        due("tape behind " + text, kernel.count(4), 0);
        due("state behind " + text, state(), before);
    }

    /** What is behind the text is judged: the text itself keeps the bounds. */
    void fits(String text) {
        refuses(text + " @", 1, text.length() + 1);
    }

    /** The text is TOO GREAT before what is behind it is judged. */
    void isTooGreat(String text) {
        refuses(text + " @", 10, 0);
    }

    /** All but the TAPE and the FAULT. */
    private String state() {
        StringBuilder told = new StringBuilder();
        for (int what = 0; what <= 5; what++) {
            told.append(what == 4 ? 0 : kernel.count(what)).append(' ');
        }
        return told.append(out()).toString();
    }

    void refusesAt(String text, int fault, String where) {
        refuses(text, fault, text.indexOf(where));
    }

    void evaluates(String text, String normalForm) {
        takes("eval " + text + ".");
        due("eval " + text, out(), normalForm);
    }

    String out() {
        StringBuilder shown = new StringBuilder();
        for (int i = 0; i < kernel.count(5); i++) {
            shown.append((char) kernel.out(i));
        }
        return shown.toString();
    }

    void shows(int constant, int what, String text) {
        due("show(" + constant + ", " + what + ")", kernel.show(constant, what), text.length());
        due("show(" + constant + ", " + what + ")", out(), text);
    }

    void showsRec(int constant, int sort, String text) {
        due("showRec(" + constant + ", " + sort + ")", kernel.showRec(constant, sort), text.length());
        due("showRec(" + constant + ", " + sort + ")", out(), text);
    }

    /** constant(k, 0) to constant(k, 7). */
    void tells(int constant, int... facts) {
        for (int what = 0; what < facts.length; what++) {
            due("constant(" + constant + ", " + what + ")", kernel.constant(constant, what), facts[what]);
        }
    }

    static void due(String call, Object got, Object want) {
        asked++;
        if (!got.equals(want)) {
            wrong++;
            System.out.println(brief(call) + " answered " + brief(got.toString())
                    + ", due is " + brief(want.toString()));
        }
    }

    static void throwsIt(String call, Class<? extends RuntimeException> due, Call it) {
        String got = "nothing thrown";
        try {
            it.run();
        } catch (RuntimeException thrown) {
            got = thrown.getClass().getName();
        }
        due(call, got, due.getName());
    }

    /** The call throws what is due, and the state, the TAPE and the FAULT stay as they were. */
    void throwsAndKeeps(String call, Class<? extends RuntimeException> due, Call it) {
        String before = state() + kernel.count(4) + " " + kernel.fault(0) + " " + kernel.fault(1);
        throwsIt(call, due, it);
        String behind = state() + kernel.count(4) + " " + kernel.fault(0) + " " + kernel.fault(1);
        due("state behind " + call, behind, before);
    }

    static String repeat(String text, int times) {
        return text.repeat(times);
    }

    private static String brief(String text) {
        return text.length() <= 200 ? text : text.substring(0, 200) + " ..";
    }

    static void finish(Class<?> test) {
        System.out.println(test.getName() + ": " + asked + " answers, " + wrong + " not as due");
        if (wrong != 0) {
            System.exit(1);
        }
    }
}
