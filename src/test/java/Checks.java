import java.util.NoSuchElementException;

/** What the tests share: writing a text, running it, showing a result, and telling wrong answers. */
abstract class Checks {
    static final String MIN = "(_999999999+_999999999-147483650)";
    static final String MAX = "(999999999+999999999+147483649)";
    private static final int MOST_TOLD = 200;
    private static String sentence = "";
    private static int checks = 0;
    private static int wrong = 0;

    /** The words of the document that the checks after it are for. */
    static void sentence(String words) {
        if (!sentence.isEmpty() && checks == 0) {
            wrong++;
            System.out.println("no check for: " + sentence);
        }
        sentence = words;
        checks = 0;
    }

    static void due(String what, Object got, Object want) {
        checks++;
        if (!String.valueOf(got).equals(String.valueOf(want))) {
            wrong++;
            tell(what + " answered " + got + ", due is " + want
                + (sentence.isEmpty() ? "" : "\n    by: " + sentence));
        }
    }

    /** A test of a million texts could otherwise fill the screen with one fault. */
    private static void tell(String fault) {
        if (wrong <= MOST_TOLD) {
            System.out.println(fault);
        }
    }

    /** Ends the program, with exit code 1 if an answer was wrong. */
    static void end(String good) {
        sentence("");
        System.out.println(wrong == 0 ? good : wrong + " answers are wrong");
        System.exit(wrong == 0 ? 0 : 1);
    }

    static int pack(String text, int from) {
        int w = 0;
        for (int k = 0; k < 4 && from + k < text.length(); k++) {
            w |= text.charAt(from + k) << 8 * k;
        }
        return w;
    }

    static int pack(String text) {
        return pack(text, 0);
    }

    static void write(RankCalc x, String text) {
        x.clear();
        for (int k = 0; k < text.length(); k += 4) {
            x.feed(pack(text, k));
        }
    }

    static String outcome(RankCalc x, String text) {
        write(x, text);
        return outcome(x);
    }

    /** What run() answers, or the letter of its fault; a subclass of the due exception is not due. */
    static String outcome(RankCalc x) {
        try {
            return String.valueOf(x.run());
        } catch (RuntimeException e) {
            return letter(e.getClass());
        }
    }

    private static String letter(Class<?> thrown) {
        Class<?>[] classes = {IllegalStateException.class, ArithmeticException.class, IllegalArgumentException.class,
            UnsupportedOperationException.class, IndexOutOfBoundsException.class, NoSuchElementException.class};
        for (int k = 0; k < classes.length; k++) {
            if (thrown == classes[k]) {
                return "SDLRXN".substring(k, k + 1);
            }
        }
        return thrown.getName();
    }

    /** The result: its lengths, and its elements in [ ]. */
    static String show(RankCalc x) {
        StringBuilder shown = new StringBuilder();
        int rank = x.rank();
        for (int k = 0; k < rank; k++) {
            shown.append(x.axis(k)).append(' ');
        }
        shown.append('[');
        int size = x.size();
        for (int k = 0; k < size; k++) {
            shown.append(k == 0 ? "" : " ").append(x.element(k));
        }
        return shown.append(']').toString();
    }

    static String heldByAll(RankCalc x) {
        StringBuilder shown = new StringBuilder();
        for (int k = 0; k < 8; k++) {
            shown.append(k == 0 ? "" : " ").append(x.held(k));
        }
        return shown.toString();
    }

    /** Runs all of the texts on one new object; the result of the last is looked at. */
    static void makes(String want, String... texts) {
        RankCalc x = new RankCalc();
        String last = "";
        for (String text : texts) {
            last = outcome(x, text);
        }
        due(String.join(" ; ", texts), show(x), want);
        due(String.join(" ; ", texts) + " run()", last, x.size());
    }

    /** The last of the texts answers what is told and leaves the result and the names alone. */
    static void answers(String want, String... texts) {
        RankCalc x = new RankCalc();
        outcome(x, "H:2 2r7 8 9 6");
        for (int k = 0; k < texts.length - 1; k++) {
            outcome(x, texts[k]);
        }
        outcome(x, "H");
        String names = heldByAll(x);
        String told = String.join(" ; ", texts);
        due(told, outcome(x, texts[texts.length - 1]), want);
        due(told + ": the result after it", show(x), "2 2 [7 8 9 6]");
        due(told + ": the names after it", heldByAll(x), names);
    }

    /** The text is refused, and so evaluates nothing. */
    static void refuses(String... texts) {
        for (String text : texts) {
            answers("-1", text);
        }
    }

    static String times(int many, String number) {
        return (number + " ").repeat(many).trim();
    }
}
