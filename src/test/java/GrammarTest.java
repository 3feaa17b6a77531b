import java.util.regex.Matcher;
import java.util.regex.Pattern;

/** Which texts are statements: every short one, compared with the document's grammar as patterns on a text. */
public final class GrammarTest extends Checks {
    /** Each kind of token, and what is none; n and T would be taken for what the patterns put in. */
    private static final String MARKS = "1_ A():+-irp/.@x";
    private static final int LONGEST = 5;
    private static final int TEXTS_OF_ONE_OBJECT = 120;

    private static final String F = "[-+*%|<>=&^]";
    private static final String ONE = "(?:[-|*ir,tv]|" + F + "[/\\\\])";
    private static final String TWO = "(?:" + F + "(?:\\." + F + "|@)?|[r,p])";
    private static final Pattern EXPRESSION = Pattern.compile("(?:" + ONE + "|T" + TWO + ")*T");
    private static final Pattern BRACKETS = Pattern.compile("\\(([^()]*)\\)");
    private static final Pattern DIGITS = Pattern.compile("[_0-9]+");

    private static RankCalc x = new RankCalc();
    private static int texts = 0;
    private static int statements = 0;

    public static void main(String[] args) {
        everyTextFrom("");
        everyTextInBrackets();
        due("some are statements, most are not", statements > 1000 && statements < texts / 10, true);
        end(texts + " texts, " + statements + " of them statements, are told apart");
    }

    private static void everyTextFrom(String start) {
        compare(start);
        if (start.length() < LONGEST) {
            for (char c : MARKS.toCharArray()) {
                everyTextFrom(start + c);
            }
        }
    }

    /** Up to eight deep, with each place of each bracket left out once. */
    private static void everyTextInBrackets() {
        for (int open = 0; open <= 8; open++) {
            for (int close = 0; close <= 8; close++) {
                for (String inside : new String[] {"", "1", "1 2", "A", "-1", "1+2", "+/1", "1+", "A:1"}) {
                    compare("(".repeat(open) + inside + ")".repeat(close));
                    compare("1+" + "(".repeat(open) + inside + ")".repeat(close) + "-(2)");
                    compare("A:" + "(1+".repeat(open) + inside + ")".repeat(close));
                    compare("(" + inside + ")+" + "(".repeat(open) + "1" + "+1)".repeat(close));
                }
            }
        }
    }

    private static void compare(String text) {
        if (texts % TEXTS_OF_ONE_OBJECT == 0) {
            x = new RankCalc();
        }
        texts++;
        boolean want = isStatement(text);
        statements += want ? 1 : 0;
        due("'" + text + "' as a statement", !outcome(x, text).equals("-1"), want);
    }

    private static boolean isStatement(String text) {
        Matcher digits = DIGITS.matcher(text);
        while (digits.find()) {
            if (!digits.group().matches("_?[0-9]{1,9}")) {
                return false;
            }
        }
        String bare = DIGITS.matcher(text).replaceAll("n").replace(" ", "").replaceAll("n+", "T");
        return isExpression(bare.replaceFirst("^[A-H]:", "").replaceAll("[A-H]", "T"));
    }

    /** Each pass makes terms of the innermost brackets, so as many passes are needed as they are deep. */
    private static boolean isExpression(String text) {
        String made = text;
        for (int deep = 0; deep < 6; deep++) {
            Matcher brackets = BRACKETS.matcher(made);
            made = brackets.replaceAll(b -> EXPRESSION.matcher(b.group(1)).matches() ? "T" : "x");
        }
        return EXPRESSION.matcher(made).matches();
    }
}
