import java.lang.reflect.Constructor;
import java.lang.reflect.Method;
import java.lang.reflect.Modifier;
import java.util.Set;
import java.util.TreeSet;
import java.util.stream.Collectors;
import java.util.stream.IntStream;

/** The document sentence by sentence: each one's words, and then the boundary cases that they name. */
public final class SentencesTest extends Checks {
    private static final String NUMBER_FUNCTIONS = "+-*%|<>=&^";
    private static final String NO_NUMBER_FUNCTIONS = "irtvp,";

    public static void main(String[] args) {
        use();
        face();
        arrays();
        names();
        text();
        numbers();
        statements();
        expressions();
        terms();
        evaluation();
        lengthFaults();
        numberFaults();
        firstFault();
        quotient();
        remainder();
        comparisons();
        withTwoArguments();
        withOneArgument();
        reduction();
        scan();
        innerProduct();
        outerProduct();
        count();
        shapeAndReshape();
        ravelAndJoin();
        transposeAndReverse();
        pick();
        faultsTogether();
        whatOperatorsArePutTo();
        newObject();
        feed();
        clear();
        run();
        theResult();
        held();
        forget();
        done();
        end("all sentences hold");
    }

    private static String upTo(int n) {
        return n + " " + IntStream.range(0, n).boxed().map(String::valueOf).collect(Collectors.joining(" ", "[", "]"));
    }

    /** An array of these lengths and its elements, as show() tells it. */
    private static String filled(String lengths, int many, String element) {
        return lengths + " [" + times(many, element) + "]";
    }

    private static void doneAfter(int want, String text) {
        RankCalc x = new RankCalc();
        outcome(x, "H:1 2");
        String told = outcome(x, text);
        due("done() after " + text + " that answered " + told, x.done(), want);
    }

    // What it is, and the public face.

    private static void use() {
        sentence("An object is used for at most 512 calls after it has been made");
        RankCalc x = new RankCalc();
        for (int k = 0; k < 50; k++) {
            x.feed(pack("1 2 "));
        }
        for (int k = 51; k < 511; k++) {
            outcome(x);
        }
        due("calls 51 to 511: S from a row of 100 numbers", outcome(x), "S");
        RankCalc y = new RankCalc();
        outcome(y, "A:(1+(2+(3+(4+(5+(6+7))))))");
        for (int k = 0; k < 120; k++) {
            outcome(y, "A:A+1");
        }
        due("some 490 calls that each change a name", show(y), "[148]");
    }

    private static String signature(Method m) {
        StringBuilder told = new StringBuilder();
        told.append(m.getReturnType().getSimpleName()).append(' ').append(m.getName()).append('(');
        for (Class<?> type : m.getParameterTypes()) {
            told.append(type.getSimpleName());
        }
        return told.append(')').toString();
    }

    private static void face() {
        sentence("public final class RankCalc");
        due("the class", Modifier.toString(RankCalc.class.getModifiers()), "public final");
        Constructor<?>[] made = RankCalc.class.getDeclaredConstructors();
        due("constructors", made.length + " " + made[0].getParameterCount() + " "
            + Modifier.toString(made[0].getModifiers()), "1 0 public");
        Set<String> methods = new TreeSet<>();
        for (Method m : RankCalc.class.getDeclaredMethods()) {
            if (!Modifier.isPrivate(m.getModifiers())) {
                methods.add(Modifier.toString(m.getModifiers()) + " " + signature(m));
            }
        }
        due("methods", methods, "[public boolean forget(int), public int axis(int), public int done(), "
            + "public int feed(int), public int held(int), public int rank(), public int run(), public int size(), "
            + "public long element(int), public long sum(), public void clear()]");
        sentence("public int run() throws IllegalStateException, ArithmeticException, IllegalArgumentException, "
            + "UnsupportedOperationException, IndexOutOfBoundsException, NoSuchElementException");
        for (Method m : RankCalc.class.getMethods()) {
            if (m.getName().equals("run")) {
                String thrown = "";
                for (Class<?> c : m.getExceptionTypes()) {
                    thrown += c.getSimpleName() + " ";
                }
                due("run throws", thrown, "IllegalStateException ArithmeticException IllegalArgumentException "
                    + "UnsupportedOperationException IndexOutOfBoundsException NoSuchElementException ");
            }
        }
    }

    // Terms: arrays and names.

    private static void arrays() {
        sentence("ARRAYS have rank 0 (a SCALAR, one element), 1 (a VECTOR), 2 or 3");
        makes("[5]", "5");
        makes("1 [5]", ",5");
        makes("1 1 [5]", "1 1r5");
        makes("1 1 1 [5]", "1 1 1r5");
        answers("R", "1 1 1 1r5");
        sentence("lengths 0 .. 48");
        makes("0 []", "0r5");
        makes(upTo(48), "i48");
        makes("48 48 0 []", "48 48 0r5");
        makes("48 0 48 []", "48 0 48r5");
        makes("0 48 48 []", "0 48 48r5");
        answers("S", "49 0 0r5");
        answers("S", "0 49 0r5");
        answers("S", "0 0 49r5");
        answers("S", "49r5");
        sentence("as many elements as the product of the lengths, at most 48");
        makes(filled("6 8", 48, "5"), "6 8r5");
        makes(filled("48 1 1", 48, "5"), "48 1 1r5");
        makes(filled("2 4 6", 48, "5"), "2 4 6r5");
        makes(filled("1 47", 47, "5"), "1 47r5");
        answers("S", "7 7r5");
        answers("S", "2 5 5r5");
        answers("S", "48 2r5");
        answers("S", "48 48 48r5");
        fullArrays();
        sentence("elements are ints");
        makes("2 [2147483647 -2147483648]", MAX + "," + MIN);
        sentence("in a row: the last axis runs fastest");
        makes("[5]", "2p1p2 3r i6");
        makes("[3]", "1p0p1p2 2 2r1 0 0 0 2 3 0 0");
        makes("2 [1 2]", "1p2 2r7 8 1 2");
    }

    /** Each function on arrays of 48 elements, which fill all the room there is. */
    private static void fullArrays() {
        makes(filled("48", 48, "-5"), "-48r5");
        makes(filled("48", 48, "5"), "|48r_5");
        makes(filled("48", 48, "-1"), "*48r_5");
        makes(filled("48", 48, "7"), "(48r5)+48r2");
        makes(filled("6 8", 48, "3"), "(6 8r5)-2");
        makes("[48]", "+/48r1");
        makes("[47]", "^/i48");
        makes("6 [8 8 8 8 8 8]", "+/6 8r1");
        makes(upTo(48), "+\\0,47r1");
        makes("[96]", "(48r2)+.*48r1");
        makes(filled("48", 48, "96"), "(48 1r96)+.*1r1");
        makes(upTo(48), "0+@i48");
        makes(upTo(48), "48r i48");
        makes("1 [48]", "r i48");
        makes(upTo(48), ",4 3 4r i48");
        makes(upTo(48), "(i24),24+i24");
        makes(upTo(48), "t i48");
        makes(upTo(48), ",t t6 8r i48");
        makes(upTo(48), "v v i48");
        makes(upTo(48), "(i48)p i48");
        makes(upTo(48), "47-v i48");
    }

    private static void names() {
        sentence("There are eight NAMES, A .. H, each with an array or none.");
        RankCalc x = new RankCalc();
        for (char name = 'A'; name <= 'H'; name++) {
            due(name + " has none", outcome(x, "" + name), "N");
        }
        for (char name = 'A'; name <= 'H'; name++) {
            due(name + " gets one", outcome(x, name + ":3r" + (name - 'A')), 3);
        }
        due("all eight", heldByAll(x), "3 3 3 3 3 3 3 3");
        for (char name = 'A'; name <= 'H'; name++) {
            outcome(x, "" + name);
            due("the array of " + name, show(x), filled("3", 3, "" + (name - 'A')));
        }
        refuses("I", "I:1", "a", "h", "A1", "AA", "@:1", "Z");
    }

    // Terms: the text and its tokens.

    private static void text() {
        sentence("The TEXT has at most 200 characters with codes 1 .. 255.");
        RankCalc x = new RankCalc();
        for (int k = 0; k < 50; k++) {
            due("four more", x.feed(pack(k == 0 ? "   7" : "+007")), 4);
        }
        due("a text of 200 is run", outcome(x) + show(x), "1[350]");
        due("no character more", x.feed(pack("7")), -1);
        due("and none is there", outcome(x) + show(x), "1[350]");
        for (int code = 1; code <= 255; code++) {
            oneCode((char) code);
        }
        sentence("Blanks (32) may stand between tokens.");
        makes("3 [11 22 33]", "  A   :   1  2   3  *   (  5  +  6  )  ");
        makes("[11]", "1 2 + . * 3 4");
        makes("2 2 [4 5 5 6]", "1 2 + @ 3 4");
        makes("2 [1 -1]", "- \\ 1 2");
        makes("2 [1 -2]", "1   _2");
        makes("[11]", "1 2+.*3 4");
        refuses("1\t2", "1\n2", "1\r2", "1\u00a02", "1\u000b2", "1\u001f2");
        sentence("which no digit or _ follows at once");
        makes("2 [1 2]", "1 2");
        makes("[12]", "12");
        makes("2 [1 -2]", "1 _2");
        refuses("1_2", "1_", "_1_2", "_1_", "999999999_", "1__2");
    }

    /** A text of this one character, one of it behind a number, and one of it between two. */
    private static void oneCode(char c) {
        boolean digit = c >= '0' && c <= '9';
        String alone = digit ? "1" : c >= 'A' && c <= 'H' ? "N" : "-1";
        String behind = digit || c == ' ' ? "1" : "-1";
        String between = digit ? "1" : c == ' ' ? "2" : c == 'p' ? "R" : c == 'r' ? "2" : c == ',' ? "2"
            : NUMBER_FUNCTIONS.indexOf(c) >= 0 ? "1" : "-1";
        due("the code " + (int) c + " alone", outcome(new RankCalc(), "" + c), alone);
        due("the code " + (int) c + " behind a number", outcome(new RankCalc(), "2" + c), behind);
        due("the code " + (int) c + " between numbers", outcome(new RankCalc(), "2" + c + "2"), between);
    }

    private static void numbers() {
        sentence("a NUMBER, an optional _ (it is negative) and one to nine digits");
        makes("[0]", "0");
        makes("[9]", "9");
        makes("[0]", "_0");
        makes("[-9]", "_9");
        makes("[1234567]", "1234567");
        makes("[999999999]", "999999999");
        makes("[-999999999]", "_999999999");
        makes("[1]", "000000001");
        makes("[-1]", "_000000001");
        makes("2 [999999999 -999999999]", "999999999 _999999999");
        refuses("1000000000", "_1000000000", "0000000001", "_0000000001", "99999999999999999999");
        refuses("_", "__", "__1", "_ 1", "_A", "_(1)", "_+1", "1 _", "1+_", "_ ", " _");
    }

    // Terms: statements, expressions and terms.

    private static void statements() {
        sentence("A STATEMENT is an EXPRESSION, or a name, a : and an expression.");
        makes("[7]", "A:7");
        makes("[7]", "H:(7)");
        makes("[-7]", "A:-7");
        makes("[7]", "A:7", "B:A");
        refuses("", " ", ":", "A:", "A: ", ":7", "A::7", "A:B:7", "1:7", "(A):7", "(A:7)", "1+A:7", "-A:7", "A B:7",
            "A:7:", "A:B:", "7:A", "A:(B:7)");
    }

    private static void expressions() {
        sentence("An expression is a TERM; or a term, a function with two arguments and an expression; or a function "
            + "with one argument and an expression.");
        for (String two : "+-*%|<>=&^r,p".split("")) {
            refuses("(1 1r1)" + two, "(" + two + ")", "1" + two + ")");
            due("1 " + two + " 1 is a statement", outcome(new RankCalc(), "1" + two + "1").equals("-1"), false);
        }
        for (String one : "-|*ir,tv".split("")) {
            refuses(one, "(" + one + ")1");
            due(one + " 1 is a statement", outcome(new RankCalc(), one + "1").equals("-1"), false);
        }
        for (String onlyTwo : "+%<>=&^p".split("")) {
            refuses(onlyTwo + "1", "1+" + onlyTwo + "1", "(" + onlyTwo + "1)");
        }
        for (String onlyOne : "itv".split("")) {
            refuses("1" + onlyOne + "1", "(1)" + onlyOne + "1", "A" + onlyOne + "1");
        }
        for (String operator : new String[] {"+/", "+\\"}) {
            refuses("1" + operator + "1", "1 2" + operator + "1", operator);
        }
        for (String operator : new String[] {"+.*", "+@"}) {
            refuses(operator + "1 2", "1 2" + operator, operator);
        }
        refuses("1(2)", "(1)2", "(1)(2)", "A B", "A 1", "1 A", "A(1)", "(1)A", "()", "1+()", "()+1");
        makes("[3]", "1" + "-".repeat(198) + "2");
        makes("[-1]", "-".repeat(199) + "1");
        makes("[4]", "10-5-1-2");
        makes("[3]", "1--2");
        makes("[6]", "1++/2 3");
        makes("2 [3 4]", "1+-_2 _3");
        makes("[-11]", "1 2+.*-3 4");
        makes("[35]", "1 2*.--3 4--1 1");
    }

    private static void terms() {
        sentence("A term is a name; one or more numbers (one is a scalar, more are a vector); or an expression in ( )");
        makes("[7]", "7");
        makes("2 [7 8]", "7 8");
        makes("2 [7 8]", "(7 8)");
        makes("2 [7 8]", "A:7 8", "A");
        sentence("at most 6 deep");
        makes("[7]", "((((((7))))))");
        makes("[14]", "((((((7))))))+((((((7))))))");
        makes("[28]", "((((((1+2)+3)+4)+5)+6)+7)");
        makes("[28]", "1+(2+(3+(4+(5+(6+(7))))))");
        makes("[21]", "(1+(1+(1+(1+(1+(1+5)+1)+1)+1)+1)+1)+5");
        makes("[7]", "(1)+(1)+(1)+(1)+(1)+(1)+(1)");
        refuses("(((((((7)))))))", "1+(((((((7)))))))", "(((((((7)))))))+1", "((((((7)))))+(((7))))))",
            "1+(2+(3+(4+(5+(6+(7+(8)))))))");
        refuses("(", ")", "(1", "1)", ")1(", "(1))", "((1)", "1)+(2", "(1+)2", "1+(2))", "(A:1)");
        sentence("The longest row of numbers is one term.");
        makes("3 [2 3 4]", "1 2 3+1");
        makes("3 [2 3 4]", "1+1 2 3");
        makes("4 [1 2 3 4]", "1 2,3 4");
        refuses("1 2(3)", "(1)2 3");
    }

    // Terms: evaluation and its faults.

    private static void evaluation() {
        sentence("To EVALUATE an expression its expression on the right is evaluated first, then the term on its left "
            + "if it has one, and then the function is done.");
        answers("N", "(1%0)+A");
        answers("D", "A+1%0");
        answers("D", "A+(1%0)");
        answers("D", "1 2 3+A+1%0");
        answers("N", "1 2 3+A+1 2");
        answers("L", "(1%0)+1 2+1 2 3");
        answers("D", "(1 2+1 2 3)+1%0");
        answers("S", times(49, "1") + "+1");
        answers("N", times(49, "1") + "+A");
        answers("S", "A+" + times(49, "1"));
        answers("D", "(1%0)+1 2,3 4");
        answers("N", "((B)+1%1)+1");
        answers("D", "((B)+1%0)+1");
        makes("[2]", "1-2-3");
        makes("[-4]", "(1-2)-3");
        makes("[-5]", "-2+3");
        makes("[1]", "(-2)+3");
    }

    private static void lengthFaults() {
        sentence("S IllegalStateException, a term or a result would have a length above 48 or more than 48 elements");
        makes(filled("48", 48, "3"), times(48, "3"));
        answers("S", times(49, "3"));
        answers("S", times(100, "3"));
        answers("S", "(" + times(49, "3") + ")");
        answers("S", "A:" + times(49, "3"));
        makes(filled("48", 48, "3"), "(48r2)+1");
        makes(filled("6 8", 48, "0"), "+/6 8 0r1");
        answers("S", "+/7 7 0r1");
        answers("S", "+/48 2 0r1");
        makes(filled("6 8", 48, "1"), "(6 1r1)+.*1 8r1");
        makes(filled("2 4 6", 48, "1"), "(2 4 1r1)+.*1 6r1");
        answers("S", "(7 1r1)+.*1 7r1");
        answers("S", "(2 5 1r1)+.*1 5r1");
        answers("S", "(7 0r1)+.*0 7r1");
        makes(filled("6 8", 48, "2"), "(6r1)+@8r1");
        makes(filled("2 4 6", 48, "2"), "(2 4r1)+@6r1");
        answers("S", "(7r1)+@7r1");
        answers("S", "(2 5r1)+@5r1");
        makes("48 48 0 []", "(48r1)+@48 0r1");
        makes(upTo(48), "i48");
        answers("S", "i49");
        makes(filled("48", 48, "1"), "(47r1),1");
        makes(filled("48", 48, "1"), "(24r1),24r1");
        makes(filled("2 24", 48, "1"), "(2 23r1),1");
        makes("0 48 []", "(0 47r1),1");
        makes("0 48 []", "(0 24r1),0 24r1");
        answers("S", "(48r1),1");
        answers("S", "1,48r1");
        answers("S", "(24r1),25r1");
        answers("S", "(2 24r1),1");
        answers("S", "(0 48r1),1");
        answers("S", "(0 24r1),0 25r1");
        answers("S", "1,7 7 0r1");
        makes(filled("24 2", 48, "1"), "(24r0)p1 2r1");
        answers("S", "(25r0)p1 2r1");
        answers("S", "(7r0)p1 7r1");
    }

    private static void numberFaults() {
        sentence("what a number function makes of one or two ints is no int (all is worked out exactly)");
        makes("[2147483647]", MAX + "+0");
        makes("[-2147483648]", MIN + "+0");
        answers("S", MAX + "+1");
        answers("S", MIN + "+_1");
        answers("S", MAX + "+" + MAX);
        answers("S", MIN + "+" + MIN);
        makes("[-1]", MAX + "+" + MIN);
        makes("[2147483647]", "_1-" + MIN);
        answers("S", "0-" + MIN);
        answers("S", MIN + "-1");
        answers("S", MAX + "-_1");
        answers("S", MAX + "-" + MIN);
        answers("S", MIN + "-" + MAX);
        makes("[2147395600]", "46340*46340");
        answers("S", "46341*46341");
        makes("[-2147483648]", "_65536*32768");
        answers("S", "65536*32768");
        answers("S", "_65536*32769");
        answers("S", "65536*65536");
        answers("S", MIN + "*_1");
        answers("S", MIN + "*" + MIN);
        answers("S", MAX + "*" + MAX);
        answers("S", MIN + "%_1");
        makes("[-2147483647]", MAX + "%_1");
        makes("[-2147483648]", MIN + "%1");
        answers("S", "-" + MIN);
        answers("S", "|" + MIN);
        makes("[2147483647]", "|1+" + MIN);
        makes("[-2147483647]", "-" + MAX);
        answers("S", "+/" + MAX + ",1");
        answers("S", "+/_1," + MAX + ",1");
        makes("[2147483647]", "+/1," + MAX + ",_1");
        answers("S", "*\\65536 32768 0");
        answers("S", "65536 1+.*32768 0");
        answers("S", "65536 1*@1 32768");
    }

    private static void firstFault() {
        sentence("N NoSuchElementException, a name has no array.");
        answers("N", "A");
        answers("N", "A:A");
        answers("N", "G:1+G");
        answers("N", "A:1", "B:A", "C");
        sentence("The first one met ends the evaluation");
        answers("N", "(1%0)+(1 2+1 2 3)+(i49)+A");
        answers("S", "(1%0)+(1 2+1 2 3)+(i49)+1");
        answers("L", "(1%0)+(1 2+1 2 3)+1");
        answers("D", "(1%0)+1");
        doneAfter(0, "1+(1+1)+1%0");
        doneAfter(2, "1+(1%0)+1+1-1");
        sentence("element by element goes from the first element on.");
        answers("D", "(1," + MIN + ")%0 _1");
        answers("S", "(" + MIN + ",1)%_1 0");
        answers("D", "(3 1r1 1 65536)%3 1r1 0 0");
        answers("D", "%/2 2r1 0," + MIN + ",_1");
        answers("S", "%/2 2r(" + MIN + ",_1),1 0");
        answers("D", "(1," + MIN + ")%@0 _1");
        answers("D", "1%@1 0");
    }

    // Terms: number functions.

    private static void quotient() {
        sentence("a % b: the exact quotient (D if b is 0 or does not divide a)");
        makes("6 [3 -3 -3 3 0 0]", "9 _9 9 _9 0 0%3 3 _3 _3 7 _7");
        makes("[1]", MIN + "%" + MIN);
        makes("[-1073741824]", MIN + "%2");
        makes("[2147483647]", MAX + "%1");
        answers("D", "1%0");
        answers("D", "0%0");
        answers("D", "_1%0");
        answers("D", MIN + "%0");
        answers("D", "7%2");
        answers("D", "_7%2");
        answers("D", "7%_2");
        answers("D", "2%4");
        answers("D", MAX + "%2");
        answers("D", MAX + "%" + MIN);
    }

    private static void remainder() {
        sentence("a | b: b - a * floor(b / a), b if a is 0");
        makes("9 [1 2 0 -2 -1 0 5 -5 0]", "3 3 3 _3 _3 _3 0 0 0|7 _7 6 7 _7 _6 5 _5 0");
        makes("4 [0 0 0 0]", "1 _1 1 _1|5 5 _5 _5");
        makes("4 [2 1 -1 -2]", "3 3 _3 _3|2 _2 2 _2");
        makes("[0]", "_1|" + MIN);
        makes("[0]", MIN + "|" + MIN);
        makes("[0]", MIN + "|0");
        makes("[-1]", MIN + "|" + MAX);
        makes("[2147483646]", MAX + "|" + MIN);
        makes("[-2147483648]", "0|" + MIN);
        makes("[2147483647]", "0|" + MAX);
        makes("[-2147483647]", MIN + "|1");
    }

    private static void comparisons() {
        sentence("a < b, a > b, a = b: 1 or 0");
        makes("3 [1 0 0]", "1 2 3<2");
        makes("3 [0 0 1]", "1 2 3>2");
        makes("3 [0 1 0]", "1 2 3=2");
        makes("3 [1 0 0]", "A:" + MIN, "B:" + MAX, "(A<B),(A>B),A=B");
        makes("3 [0 1 0]", "A:" + MAX, "B:" + MIN, "(A<B),(A>B),A=B");
        makes("3 [0 0 1]", "A:" + MIN, "(A<A),(A>A),A=A");
        sentence("a & b the lesser   a ^ b the greater.");
        makes("3 [1 2 2]", "1 2 3&2");
        makes("3 [2 2 3]", "1 2 3^2");
        makes("2 [-2147483648 2147483647]", "(" + MAX + "&" + MIN + ")," + MAX + "^" + MIN);
        makes("2 [-2147483648 2147483647]", "(" + MIN + "&" + MAX + ")," + MIN + "^" + MAX);
    }

    private static void withTwoArguments() {
        sentence("arrays of the same rank and lengths, element by element");
        makes("2 [4 6]", "1 2+3 4");
        makes("2 2 [-5 -5 -5 -5]", "(2 2r i4)-2 2r5 6 7 8");
        makes("1 2 2 [0 1 4 9]", "(1 2 2r i4)*1 2 2r i4");
        makes("0 []", "(i0)%i0");
        makes("2 0 3 []", "(2 0 3r1)%2 0 3r0");
        sentence("a scalar goes with each element of the other one, whatever it is");
        makes("[3]", "1+2");
        makes("1 [3]", "1+,2");
        makes("1 [-1]", "(,1)-2");
        makes("2 2 [5 4 3 2]", "5-2 2r i4");
        makes("2 2 [-5 -4 -3 -2]", "(2 2r i4)-5");
        makes("2 1 2 [5 4 3 2]", "5-2 1 2r i4");
        makes("2 1 2 [-5 -4 -3 -2]", "(2 1 2r i4)-5");
        makes("0 []", "1%i0");
        makes("0 []", "(i0)%0");
        makes("48 48 0 []", "(48 48 0r1)%0");
        sentence("else R if the ranks differ, L if the lengths do.");
        answers("R", "(,1)+1 1r1");
        answers("R", "(1 1r1)+,1");
        answers("R", "1 2+1 2 1r1");
        answers("R", "(2 2r1)+2 2 1r1");
        answers("R", "(2 2r1)+1 2 3");
        answers("R", "(i0)+0 0r1");
        answers("L", "1 2+1 2 3");
        answers("L", "(,1)+1 2");
        answers("L", "1 2+,1");
        answers("L", "(i0)+,1");
        answers("L", "(2 3r1)+3 2r1");
        answers("L", "(2 3r1)+2 2r1");
        answers("L", "(2 3r1)+1 3r1");
        answers("L", "(2 3 2r1)+1 3 2r1");
        answers("L", "(2 3 2r1)+2 1 2r1");
        answers("L", "(2 3 2r1)+2 3 1r1");
        answers("L", "(0 3r1)+0 4r1");
    }

    private static void withOneArgument() {
        sentence("With one argument: - negates, | makes absolute, * is -1, 0 or 1 by the sign, of each element.");
        makes("5 [-5 -1 0 1 5]", "-5 1 0 _1 _5");
        makes("5 [5 1 0 1 5]", "|5 1 0 _1 _5");
        makes("5 [1 1 0 -1 -1]", "*5 1 0 _1 _5");
        makes("[-5]", "-5");
        makes("1 1 1 [-5]", "-1 1 1r5");
        makes("2 0 []", "-2 0r1");
        makes("2 0 []", "|2 0r1");
        makes("2 0 []", "*2 0r1");
        makes("[-1]", "*" + MIN);
        makes("[1]", "*" + MAX);
        makes("[2147483647]", "|" + MAX);
        answers("S", "-0," + MIN);
        answers("S", "|0," + MIN);
    }

    private static void reduction() {
        sentence("each row a1 .. an becomes the one element a1 f (a2 f (.. f an)), worked out from the right; the last "
            + "axis is gone.");
        makes("[2]", "-/1 2 3");
        makes("[6]", "%/12 4 2");
        makes("[0]", "=/2 2 1");
        makes("2 [1 4]", "-/2 3r i6");
        makes("1 2 [1 4]", "-/1 2 3r i6");
        makes("3 [0 1 2]", "+/3 1r i3");
        answers("D", "%/" + MIN + ",_1 0");
        answers("S", "+/_1," + MAX + ",1");
        makes("[" + Integer.MAX_VALUE + "]", "+/1," + MAX + ",_1");
        sentence("n = 1: a1");
        for (String f : NUMBER_FUNCTIONS.split("")) {
            makes("[-7]", f + "/,_7");
            makes("2 [0 5]", f + "/2 1r0 5");
        }
        sentence("n = 0: 0 for +, 1 for *, else D.");
        makes("[0]", "+/i0");
        makes("[1]", "*/i0");
        makes("2 [0 0]", "+/2 0r1");
        makes("1 2 [1 1]", "*/1 2 0r1");
        for (String f : "-%|<>=&^".split("")) {
            answers("D", f + "/i0");
            answers("D", f + "/2 0r1");
            answers("D", f + "/1 2 0r1");
            makes("0 []", f + "/0 0r1");
            makes("0 []", f + "/0 3r1");
            makes("0 48 []", f + "/0 48 0r1");
        }
        sentence("A scalar stays.");
        for (String f : NUMBER_FUNCTIONS.split("")) {
            makes("[-7]", f + "/_7");
            makes("[0]", f + "/0");
        }
    }

    private static void scan() {
        sentence("f\\ : each row's element k becomes what f/ makes of the row's elements up to k");
        makes("4 [1 3 6 10]", "+\\1 2 3 4");
        makes("4 [1 -1 2 -2]", "-\\1 2 3 4");
        makes("3 [8 4 4]", "%\\8 2 1");
        makes("2 3 [0 -1 1 3 -1 4]", "-\\2 3r i6");
        makes("1 2 2 [0 -1 2 -1]", "-\\1 2 2r i4");
        makes("2 1 [4 5]", "%\\2 1r4 5");
        makes("1 [0]", "%\\,0");
        makes(upTo(48), "^\\i48");
        for (String f : NUMBER_FUNCTIONS.split("")) {
            makes("0 []", f + "\\i0");
            makes("3 0 []", f + "\\3 0r1");
            makes("48 48 0 []", f + "\\48 48 0r1");
        }
        makes("[7]", "%/7 2 2");
        answers("D", "%\\7 2 2");
        answers("S", "+\\" + MAX + ",1 _1");
        answers("S", "%\\" + MIN + ",_1 0");
        sentence("a scalar stays.");
        for (String f : NUMBER_FUNCTIONS.split("")) {
            makes("[-7]", f + "\\_7");
        }
    }

    private static void innerProduct() {
        sentence("f.g (two arguments): R if one is a scalar, or the ranks together are above 5");
        answers("R", "1+.*1");
        answers("R", "1+.*,1");
        answers("R", "(,1)+.*1");
        answers("R", "1+.*1 1 1r1");
        answers("R", "(1 1r1)+.*1");
        answers("R", "(1 1 1r1)+.*1 1 1r1");
        makes("1 1 1 [6]", "(1 1 1r2)+.*1 1r3");
        makes("1 1 1 [6]", "(1 1r2)+.*1 1 1r3");
        makes("1 1 [6]", "(,2)+.*1 1 1r3");
        makes("[6]", "(,2)+.*,3");
        sentence("L if the last length of the left one is not the first of the right one.");
        answers("L", "1 2+.*1 2 3");
        answers("L", "(2 3r1)+.*2 3r1");
        answers("L", "(,1)+.*1 2");
        answers("L", "(i0)+.*,1");
        answers("L", "(,1)+.*i0");
        answers("L", "(0 1r1)+.*0 1r1");
        makes("2 2 [5 14 14 50]", "(2 3r i6)+.*t2 3r i6");
        sentence("The lengths are the left ones without the last, then the right ones without the first");
        makes("2 [14 32]", "(2 3r1 2 3 4 5 6)+.*1 2 3");
        makes("3 [9 12 15]", "1 2+.*2 3r1 2 3 4 5 6");
        makes("4 [1 3 5 7]", "(4 2r i8)+.*0 1");
        makes("4 3 [3 4 5 9 14 19 15 24 33 21 34 47]", "(4 2r i8)+.*2 3r i6");
        makes("3 1 3 [3 4 5 9 14 19 15 24 33]", "(3 1 2r i6)+.*2 3r i6");
        makes("1 1 3 [3 4 5]", "(1 2r i2)+.*2 1 3r i6");
        makes("2 0 []", "(2 2r1)-.%2 0r0");
        makes("0 2 []", "(0 2r1)-.%2 2r0");
        makes("0 48 []", "(0 0r1)-.%0 48r0");
        sentence("each element is f/ of the row of (left element) g (right element) along those axes");
        makes("[-1]", "1 2 3-.-4 3 2");
        makes("2 2 [-2 -2 -4 -4]", "(2 2r i4)-.*2 2r1 1 2 2");
        makes("[6]", "(,2)%.*,3");
        makes("[0]", "(i0)+.%i0");
        makes("[1]", "(i0)*.%i0");
        makes("2 2 [0 0 0 0]", "(2 0r1)+.*0 2r1");
        for (String f : "-%|<>=&^".split("")) {
            answers("D", "(i0)" + f + ".*i0");
            answers("D", "(2 0r1)" + f + ".*0 2r1");
        }
        sentence("all g first, from the first on.");
        answers("D", "1 65536 65536*.%0 1 1");
        answers("D", "65536 65536 1*.%1 1 0");
        answers("S", "(" + MIN + ",1)+.%_1 0");
        answers("D", "(1," + MIN + ")+.%0 _1");
        answers("S", "(2 2r65536 65536 1 1)*.%2 1r1 1");
        answers("S", "(2 2r65536 65536 1 3)*.%2 1r1 2");
        answers("D", "(2 2r1 3 65536 65536)*.%2 1r1 2");
    }

    private static void outerProduct() {
        sentence("f@ (two arguments): R if the ranks together are above 3");
        answers("R", "(1 1r1)+@1 1r1");
        answers("R", "(1 1 1r1)+@,1");
        answers("R", "(,1)+@1 1 1r1");
        answers("R", "(1 1 1r1)+@1 1 1r1");
        answers("R", "(0 0r1)+@0 0r1");
        makes("1 1 1 [3]", "(1 1 1r1)+@2");
        makes("1 1 1 [3]", "1+@1 1 1r2");
        makes("1 1 1 [3]", "(1 1r1)+@,2");
        makes("1 1 1 [3]", "(,1)+@1 1r2");
        makes("[3]", "1+@2");
        sentence("the lengths are the left ones and then the right ones; each element is (left element) f (right "
            + "element).");
        makes("3 2 [1 2 2 4 3 6]", "1 2 3*@1 2");
        makes("2 3 [0 -1 -2 1 0 -1]", "0 1-@0 1 2");
        makes("2 1 3 [0 -1 -2 1 0 -1]", "(2 1r i2)-@0 1 2");
        makes("2 1 3 [0 -1 -2 1 0 -1]", "(i2)-@1 3r i3");
        makes("0 2 []", "(i0)%@0 0");
        makes("2 0 []", "1 2%@i0");
        makes("0 48 48 []", "(0 48r1)%@48r0");
    }

    private static void count() {
        sentence("i (one): a scalar n or a vector of one element n: the vector 0 .. n - 1.");
        makes("0 []", "i0");
        makes("1 [0]", "i1");
        makes("0 []", "i,0");
        makes("1 [0]", "i,1");
        makes("3 [0 1 2]", "i3");
        makes(upTo(48), "i,48");
        sentence("R if the rank is above 1");
        answers("R", "i1 1r3");
        answers("R", "i1 1 1r3");
        answers("R", "i0 0r3");
        sentence("L if it is a vector of another length");
        answers("L", "i i0");
        answers("L", "i3 3");
        answers("L", "i48r1");
        sentence("D if n < 0");
        answers("D", "i_1");
        answers("D", "i,_1");
        answers("D", "i" + MIN);
        sentence("S if n > 48.");
        answers("S", "i49");
        answers("S", "i,49");
        answers("S", "i" + MAX);
    }

    private static void shapeAndReshape() {
        sentence("r (one): the vector of the lengths.");
        makes("0 []", "r7");
        makes("1 [1]", "r,7");
        makes("1 [0]", "r i0");
        makes("1 [48]", "r i48");
        makes("2 [2 0]", "r2 0r1");
        makes("3 [48 48 0]", "r48 48 0r1");
        makes("3 [2 3 4]", "r2 3 4r1");
        sentence("the array with the lengths on the left (a scalar or a vector) whose elements are the right ones in a "
            + "row, over and over.");
        makes("[9]", "(i0)r9 8");
        makes("2 [9 8]", "2r9 8 7");
        makes("2 [9 8]", "(,2)r9 8 7");
        makes("5 [1 2 1 2 1]", "5r1 2");
        makes("2 3 [0 1 2 3 0 1]", "2 3r2 2r i4");
        makes("1 2 3 [0 1 2 3 4 0]", "1 2 3r i5");
        makes("0 []", "0r1");
        makes("0 0 0 []", "0 0 0r1");
        makes(filled("48", 48, "7"), "48r7");
        sentence("R if the left one's rank is above 1 or it has more than 3 elements");
        answers("R", "(1 1r1)r5");
        answers("R", "(0 0r1)r5");
        answers("R", "(1 1 1r1)r5");
        answers("R", "1 1 1 1r5");
        answers("R", "0 0 0 0r5");
        answers("R", "(48r1)r5");
        makes("1 1 1 [5]", "1 1 1r5");
        sentence("D if one is below 0");
        answers("D", "_1r5");
        answers("D", "1 _1r5");
        answers("D", "1 1 _1r5");
        answers("D", "_1 0 1r5");
        answers("D", "_1 _1r5");
        answers("D", MIN + "r5");
        answers("D", "0 _1r i0");
        sentence("L if the right one has no elements and the result has.");
        answers("L", "1r i0");
        answers("L", "(i0)r i0");
        answers("L", "48r0 3r1");
        makes("0 []", "0r i0");
        makes("3 0 []", "3 0r i0");
        makes("0 3 []", "0 3r2 0r1");
        sentence("R if the left one's rank is above 1 or it has more than 3 elements; D if one is below 0; S; L if the "
            + "right one has no elements and the result has.");
        answers("R", "_1 _1 _1 _1r i0");
        answers("R", "(1 2r_1 49)r i0");
        answers("D", "49 _1r i0");
        answers("D", "_1 49r5");
        answers("D", "48 48 _1r i0");
        answers("S", "49r i0");
        answers("S", "7 7r i0");
        answers("S", "49 0r i0");
        answers("S", "(" + MAX + "," + MAX + ")r5");
        answers("S", "(65536,65536)r5");
        answers("S", "(65536,65536,0)r5");
    }

    private static void ravelAndJoin() {
        sentence(", (one): the vector of the elements.");
        makes("1 [7]", ",7");
        makes("2 [7 8]", ",7 8");
        makes("4 [0 1 2 3]", ",2 2r i4");
        makes("6 [0 1 2 3 4 5]", ",1 2 3r i6");
        makes("0 []", ",48 48 0r1");
        makes(upTo(48), ",2 4 6r i48");
        sentence(", (two): joined along the last axis.");
        makes("5 [1 2 3 4 5]", "1 2,3 4 5");
        makes("2 3 [0 1 8 2 3 9]", "(2 2r i4),2 1r8 9");
        makes("1 2 3 [8 0 1 9 2 3]", "(1 2 1r8 9),1 2 2r i4");
        makes("2 [1 2]", "1 2,i0");
        makes("2 [1 2]", "(i0),1 2");
        makes("0 []", "(i0),i0");
        makes("2 1 [8 9]", "(2 0r1),2 1r8 9");
        sentence("Two scalars make a vector of two.");
        makes("2 [1 2]", "1,2");
        sentence("A scalar with another array becomes one of its rank with last length 1 and the other lengths of that "
            + "one.");
        makes("3 [9 1 2]", "9,1 2");
        makes("3 [1 2 9]", "1 2,9");
        makes("1 [9]", "9,i0");
        makes("1 [9]", "(i0),9");
        makes("2 3 [9 0 1 9 2 3]", "9,2 2r i4");
        makes("2 3 [0 1 9 2 3 9]", "(2 2r i4),9");
        makes("1 2 3 [9 0 1 9 2 3]", "9,1 2 2r i4");
        makes("1 2 3 [0 1 9 2 3 9]", "(1 2 2r i4),9");
        makes("3 1 [9 9 9]", "(3 0r1),9");
        makes("3 1 [9 9 9]", "9,3 0r1");
        makes("0 3 []", "9,0 2r1");
        sentence("If the ranks (none 0) differ by 1, the lower one gets a last axis of length 1");
        makes("2 3 [8 0 1 9 2 3]", "8 9,2 2r i4");
        makes("2 3 [0 1 8 2 3 9]", "(2 2r i4),8 9");
        makes("1 2 3 [8 0 1 9 2 3]", "(1 2r8 9),1 2 2r i4");
        makes("2 1 3 [0 1 8 2 3 9]", "(2 1 2r i4),2 1r8 9");
        makes("2 1 [8 9]", "8 9,2 0r1");
        makes("0 3 []", "(i0),0 2r1");
        sentence("by 2: R.");
        answers("R", "(,1),1 1 1r1");
        answers("R", "(1 1 1r1),,1");
        answers("R", "(i0),0 0 0r1");
        sentence("L if a length but the last differs.");
        answers("L", "1 2 3,2 2r1");
        answers("L", "(2 2r1),1 2 3");
        answers("L", "(i0),2 2r1");
        answers("L", "(2 2r1),3 2r1");
        answers("L", "(2 2 1r1),3 2 1r1");
        answers("L", "(2 2 1r1),2 3 1r1");
        answers("L", "(2 2 1r1),2 3r1");
        answers("L", "(2 2 1r1),3 2r1");
        answers("L", "(3 2r1),2 2 1r1");
        answers("L", "(2 3r1),2 2 1r1");
        makes("2 5 [1 1 2 2 2 1 1 2 2 2]", "(2 2r1),2 3r2");
        makes("1 2 3 [1 2 2 1 2 2]", "(1 2 1r1),1 2 2r2");
    }

    private static void transposeAndReverse() {
        sentence("t (one): the axes in reverse order: the element at (x, y, ..) is the one that was at (.., y, x).");
        makes("[7]", "t7");
        makes("3 [1 2 3]", "t1 2 3");
        makes("0 []", "t i0");
        makes("3 2 [0 3 1 4 2 5]", "t2 3r i6");
        makes("3 2 1 [0 3 1 4 2 5]", "t1 2 3r i6");
        makes("2 1 3 [0 2 4 1 3 5]", "t3 1 2r i6");
        makes("1 3 2 [0 3 1 4 2 5]", "t2 3 1r i6");
        makes("4 3 2 [0 12 4 16 8 20 1 13 5 17 9 21 2 14 6 18 10 22 3 15 7 19 11 23]", "t2 3 4r i24");
        makes("0 48 48 []", "t48 48 0r1");
        makes("48 0 2 []", "t2 0 48r1");
        makes("3 0 []", "t0 3r1");
        sentence("v (one): each row in reverse order.");
        makes("[7]", "v7");
        makes("1 [7]", "v,7");
        makes("3 [3 2 1]", "v1 2 3");
        makes("2 3 [2 1 0 5 4 3]", "v2 3r i6");
        makes("1 3 2 [1 0 3 2 5 4]", "v1 3 2r i6");
        makes("3 1 [0 1 2]", "v3 1r i3");
        makes("0 []", "v i0");
        makes("48 48 0 []", "v48 48 0r1");
        makes("0 3 []", "v0 3r1");
    }

    private static void pick() {
        sentence("the lengths are the left ones and then the right ones without the first; for each index, in order, "
            + "the part of the right one at it.");
        makes("[6]", "1p5 6 7");
        makes("3 [7 5 5]", "2 0 0p5 6 7");
        makes("2 2 [6 5 5 7]", "(2 2r1 0 0 2)p5 6 7");
        makes("1 1 2 [6 5]", "(1 1 2r1 0)p5 6 7");
        makes("3 [3 4 5]", "1p2 3r i6");
        makes("3 2 [2 3 0 1 2 3]", "1 0 1p2 2r i4");
        makes("1 2 2 [3 4 1 2]", "(1 2r1 0)p2 2r1 2 3 4");
        makes("1 2 [2 3]", "1p2 1 2r i4");
        makes("2 1 2 [2 3 0 1]", "1 0p2 1 2r i4");
        makes("0 []", "(i0)p5 6");
        makes("0 []", "(i0)p i0");
        makes("0 48 []", "(i0)p1 48r1");
        makes("2 0 []", "0 1p2 0r1");
        makes("0 48 48 []", "(i0)p0 48 48r1");
        sentence("R if the right one is a scalar, or the ranks together are above 4");
        answers("R", "0p7");
        answers("R", "0 0p7");
        answers("R", "(i0)p7");
        answers("R", "(1 1r0)p1 1 1r7");
        answers("R", "(1 1 1r0)p1 1r7");
        answers("R", "(0 0 0r0)p1 1 1r7");
        makes("1 1 1 [7]", "(,0)p1 1 1r7");
        makes("1 1 1 [7]", "(1 1r0)p1 1r7");
        makes("1 1 1 [7]", "(1 1 1r0)p,7");
        makes("1 1 [7]", "0p1 1 1r7");
        sentence("X if an index is not 0 .. the first length less 1.");
        answers("X", "_1p5 6");
        answers("X", "2p5 6");
        answers("X", "2p2 3r1");
        answers("X", "0p i0");
        answers("X", "0p0 3r1");
        answers("X", "0 1 2p5 6");
        answers("X", "0 2p2 0r1");
        answers("X", "(1 2r0 _1)p5 6");
        answers("X", MIN + "p5 6");
        answers("X", MAX + "p5 6");
        makes("2 [5 6]", "0 1p5 6");
        makes("[47]", "47p i48");
        answers("X", "48p i48");
        sentence("R if the right one is a scalar, or the ranks together are above 4; S; X if an index is not 0 .. the "
            + "first length less 1.");
        answers("R", "9p7");
        answers("R", "(7 7 0r9)p0 7r1");
        answers("R", "(1 1r9)p1 1 1r7");
        answers("S", "(25r9)p1 2r1");
        answers("S", "0p0 48 48r1");
        answers("S", "(7r9)p1 7r1");
    }

    private static void faultsTogether() {
        sentence("(If several faults of one function come together and no order is told, R counts before L, then S for "
            + "lengths and their number, then those of elements.)");
        answers("R", "(2 2r1)+1 2 3");
        answers("R", "(2 2r1)%0 0 0");
        answers("L", "1 2%0 0 0");
        answers("L", "(65536,65536)*65536 65536 65536");
        answers("R", "(2 2 2r1)+.*3 1 1r1");
        answers("R", "1+.%0 0");
        answers("R", "(4 4 3r1)+.*2 5 4r1");
        answers("L", "(7 2r1)+.*3 7r1");
        answers("L", "1 2+.%0 0 0");
        answers("L", "(i0)-.*,1");
        answers("S", "(7 1r1)+.%1 7r0");
        answers("S", "(7 0r1)-.*0 7r1");
        answers("S", "-/7 7 0r1");
        answers("S", "(7r1)%@7r0");
        answers("R", "(7 7 0r1)+@0 7r1");
        answers("R", "(4 4r1)%@4 4r0");
        answers("R", "i2 2r_1");
        answers("L", "i_1 _1");
        answers("L", "i49 49");
        answers("R", "(,1),2 2 2r1");
        answers("L", "(24 2r1),1 48r1");
        answers("L", "(0 48r1),1 48r1");
    }

    private static void whatOperatorsArePutTo() {
        sentence("What / \\ . @ are put to is a number function; after . comes another one.");
        for (String f : NUMBER_FUNCTIONS.split("")) {
            for (String g : NUMBER_FUNCTIONS.split("")) {
                RankCalc inner = new RankCalc();
                RankCalc steps = new RankCalc();
                due("8 3" + f + "." + g + "2 1", outcome(inner, "8 3" + f + "." + g + "2 1") + show(inner),
                    outcome(steps, "(8" + g + "2)" + f + "3" + g + "1") + show(steps));
                due("8 3" + f + "." + g + "2 1 is done", inner.done() > 0 || f.equals("%"), true);
            }
            refuses("1 2" + f + ".3 4", "1 2" + f + ".", "1 2" + f + ".A", "1 2" + f + ".(3 4)", "1 2" + f + "./3 4",
                "1 2" + f + ".@3 4", "1 2" + f + "..3 4", "1 2" + f + "@@3 4", f + "//3 4", f + "/\\3 4",
                f + "." + f + "/3 4", "1 2" + f + "." + f + "." + f + "3 4", "1 2" + f + "@." + f + "3 4");
            for (String other : NO_NUMBER_FUNCTIONS.split("")) {
                refuses("1 2" + f + "." + other + "3 4", "1 2" + other + "." + f + "3 4");
            }
        }
        for (String other : NO_NUMBER_FUNCTIONS.split("")) {
            refuses(other + "/1 2", other + "\\1 2", "1 2" + other + "@1 2", "1 2" + other + "." + other + "1 2");
        }
        refuses("/1", "\\1", ".1", "@1", "1/1", "1\\1", "1.1", "1@1", "A/1", "(+)/1", "(1)/1", "/", "\\", ".", "@");
    }

    // The promises.

    private static void newObject() {
        sentence("No text, no names with arrays, the result is the vector without elements.");
        RankCalc x = new RankCalc();
        due("new: the result", show(x) + " " + x.rank() + " " + x.axis(0) + " " + x.axis(1), "0 [] 1 0 -1");
        due("new: size, sum, element(0)", x.size() + " " + x.sum() + " " + x.element(0), "0 0 4294967296");
        due("new: names", heldByAll(x), "-1 -1 -1 -1 -1 -1 -1 -1");
        due("new: forget", x.forget(0) + " " + x.forget(7), "false false");
        due("new: no text", outcome(x), -1);
        RankCalc y = new RankCalc();
        outcome(y, "A:1+2");
        y.clear();
        y.feed('9');
        RankCalc z = new RankCalc();
        due("one made later", show(z) + z.held(0) + z.done() + outcome(z), "0 []-10-1");
        due("one made before", show(x) + x.held(0) + x.done() + outcome(x), "0 []-10-1");
    }

    private static String fedThenRun(int w) {
        RankCalc x = new RankCalc();
        int many = x.feed(w);
        return many + " " + outcome(x) + show(x);
    }

    private static void feed() {
        sentence("Appends to the text the codes w & 255, w >> 8 & 255, w >> 16 & 255, w >> 24 & 255, up to before the "
            + "first that is 0: how many");
        due("four codes", fedThenRun('1' | '2' << 8 | '3' << 16 | '4' << 24), "4 1[1234]");
        due("three codes", fedThenRun('1' | '2' << 8 | '3' << 16), "3 1[123]");
        due("two codes", fedThenRun('1' | '2' << 8), "2 1[12]");
        due("one code", fedThenRun('1'), "1 1[1]");
        due("no code", fedThenRun(0), "0 -10 []");
        due("a 0 first", fedThenRun('2' << 8 | '3' << 16 | '4' << 24), "0 -10 []");
        due("a 0 second", fedThenRun('1' | '3' << 16 | '4' << 24), "1 1[1]");
        due("a 0 third", fedThenRun('1' | '2' << 8 | '4' << 24), "2 1[12]");
        due("code 255 four times", fedThenRun(-1), "4 -10 []");
        due("code 128 last", fedThenRun(Integer.MIN_VALUE | '1' | '2' << 8 | '3' << 16), "4 -10 []");
        due("code 128 last behind a 0", fedThenRun(Integer.MIN_VALUE), "0 -10 []");
        due("code 1", fedThenRun(1), "1 -10 []");
        RankCalc x = new RankCalc();
        due("appended", x.feed(pack("12")) + " " + x.feed(pack("34")) + outcome(x) + show(x), "2 21[1234]");
        due("appended after a run", x.feed(pack("+1")) + outcome(x) + show(x), "21[1235]");
        sentence("-1, and none is, if there would be more than 200.");
        for (int room = 0; room <= 4; room++) {
            for (int many = 0; many <= 4; many++) {
                feedAtTheEnd(room, many);
            }
        }
    }

    /** The text has room for so many codes when so many are fed. */
    private static void feedAtTheEnd(int room, int many) {
        RankCalc x = new RankCalc();
        x.feed('7');
        for (int k = 1; k < 200 - room; k++) {
            x.feed(' ');
        }
        String what = "room for " + room + ", " + many + " fed";
        due(what, x.feed(pack("+123".substring(0, many))), many <= room ? many : -1);
        String[] made = {"1[7]", "-10 []", "1[8]", "1[19]", "1[130]"};
        due(what + " and run", outcome(x) + show(x), made[many <= room ? many : 0]);
        int left = many <= room ? room - many : room;
        for (int k = 0; k < left; k++) {
            due(what + ", one more", x.feed(' '), 1);
        }
        due(what + ", full", x.feed(' ') + " " + x.feed(-1) + " " + x.feed(0) + " " + x.feed(' ' << 8), "-1 -1 0 0");
    }

    private static void clear() {
        sentence("The text is empty.");
        RankCalc x = new RankCalc();
        x.clear();
        due("nothing to clear", outcome(x), -1);
        outcome(x, "A:-1 2 3");
        x.clear();
        due("no statement any more", outcome(x), -1);
        due("all else stays", show(x) + " " + heldByAll(x) + " " + x.done(), "3 [-1 -2 -3] 3 -1 -1 -1 -1 -1 -1 -1 1");
        x.clear();
        for (int k = 0; k < 50; k++) {
            due("room for 200 again", x.feed(pack("    ")), 4);
        }
        due("and no more", x.feed(' '), -1);
        x.clear();
        due("a text of one after one of 200", x.feed('5') + outcome(x) + show(x), "11[5]");
    }

    private static void run() {
        sentence("-1 if the text is not a statement (nothing is evaluated then).");
        answers("-1", "A:1+2+");
        answers("-1", "A:1", "A:2)");
        answers("-1", "1%0)");
        answers("-1", "x+1%0");
        answers("-1", "A:B:1%0");
        RankCalc x = new RankCalc();
        outcome(x, "A:1+2+3");
        for (String refused : new String[] {"(1", "((((((1", "1)", ")", "1+", "_", "_1_", "A:", "1 2", "A:(7", "x"}) {
            outcome(x, refused);
            due("a statement after " + refused, outcome(x, "A:((((((1))))))+2+3") + show(x) + x.done(), "1[6]2");
        }
        due("what a -1 leaves", outcome(x, "A:4+5+6+") + show(x) + x.held(0) + x.done(), "-1[6]12");
        sentence("Else evaluates its expression, which becomes the result, and the array of the name if there is one "
            + "before a : ; the number of its elements.");
        due("a result alone", outcome(x, "2 3r1") + show(x) + x.held(0), "62 3 [1 1 1 1 1 1]1");
        due("a result and a name", outcome(x, "A:2 0r1") + show(x) + x.held(0), "02 0 []0");
        due("the name's array has its lengths", outcome(x, "r A") + show(x), "22 [2 0]");
        due("48 elements", outcome(x, "B:48r2") + " " + x.held(1), "48 48");
        due("run again", outcome(x) + " " + x.held(1), "48 48");
        makes("2 [1 2]", "A:1 2", "B:A", "A:7 8 9", "B");
        makes("[3]", "A:1", "A:A+1", "A:A+1");
        makes("8 [1 1 1 1 1 1 1 1]", "A:,1", "A:A,A", "A:A,A", "A:A,A");
        makes("[9]", "A:4", "(A+1)+A");
        makes("3 [3 2 1]", "A:1 2 3", "vA");
        sentence("With a fault the exception; result and names are as before.");
        answers("S", "A:1", "A:i49");
        answers("D", "A:1", "A:1%0");
        answers("L", "A:1", "A:1 2+1 2 3");
        answers("R", "A:1", "A:1p2");
        answers("X", "A:1", "A:5p1 2");
        answers("N", "A:1", "A:B");
        answers("D", "A:1%0");
        RankCalc y = new RankCalc();
        outcome(y, "A:2 2r1 2 3 4");
        outcome(y, "B:5 6");
        outcome(y, "A:(1 0%1 1)+(1%0)+A*B,7");
        outcome(y, "B:(1 0%1 0)+B");
        due("after faults", show(y) + " " + heldByAll(y), "2 [5 6] 4 2 -1 -1 -1 -1 -1 -1");
        outcome(y, "A");
        due("A after faults", show(y), "2 2 [1 2 3 4]");
        outcome(y, "B");
        due("B after faults", show(y), "2 [5 6]");
        String[] faults = {"(1%0)", "((((((1%0))))))+1", "1+(2+(3+(4+(5+(6+(A+B))))))", "(C)+1", "1 2+1 2 3",
            "((i49))"};
        for (String fault : faults) {
            outcome(y, fault);
            due("a statement after " + fault, outcome(y, "1+(2+(3+(4+(5+(6+(7))))))") + show(y) + y.done(), "1[28]6");
            due("a term after " + fault, outcome(y, fault).length() + outcome(y, "B") + show(y) + y.done(),
                "122 [5 6]0");
        }
        due("the text is as before, too", outcome(y, "C:1%0") + outcome(y), "DD");
    }

    private static void theResult() {
        RankCalc x = new RankCalc();
        sentence("The rank of the result.");
        String[] texts = {"7", "7 7", "2 3r i6", "2 3 4r i24"};
        for (int k = 0; k < texts.length; k++) {
            outcome(x, texts[k]);
            due("rank of " + texts[k], x.rank(), k);
        }
        sentence("The length of the result along axis k (0 the first); -1 if it has no such axis.");
        due("axes", x.axis(0) + " " + x.axis(1) + " " + x.axis(2) + " " + x.axis(3), "2 3 4 -1");
        due("far axes", x.axis(-1) + " " + x.axis(Integer.MIN_VALUE) + " " + x.axis(Integer.MAX_VALUE), "-1 -1 -1");
        outcome(x, "5 0r1");
        due("axes of a matrix after it", x.axis(0) + " " + x.axis(1) + " " + x.axis(2), "5 0 -1");
        outcome(x, "7 7 7");
        due("axes of a vector after it", x.axis(0) + " " + x.axis(1), "3 -1");
        outcome(x, "7");
        due("a scalar has none", x.axis(0) + " " + x.axis(-1), "-1 -1");
        sentence("The number of elements of the result.");
        due("of a scalar", x.size(), 1);
        outcome(x, "48 0 48r1");
        due("of none", x.size(), 0);
        outcome(x, "2 4 6r1");
        due("of 48", x.size(), 48);
        sentence("Element k of the result's row; 4294967296 if there is none.");
        outcome(x, "i48");
        due("ends", x.element(0) + " " + x.element(47), "0 47");
        due("beyond", x.element(48) + " " + x.element(-1), "4294967296 4294967296");
        due("far", x.element(Integer.MAX_VALUE) + " " + x.element(Integer.MIN_VALUE), "4294967296 4294967296");
        outcome(x, MIN + "," + MAX);
        due("least and greatest", x.element(0) + " " + x.element(1), "-2147483648 2147483647");
        due("of a smaller one", x.element(2), 4294967296L);
        outcome(x, "2 0r1");
        due("of an empty one", x.element(0), 4294967296L);
        outcome(x, "7");
        due("of a scalar", x.element(0) + " " + x.element(1), "7 4294967296");
        sentence("The sum of the result's elements.");
        due("of a scalar", x.sum(), 7);
        outcome(x, "3 _5 0");
        due("below 0", x.sum(), -2);
        outcome(x, "48r" + MAX);
        due("above an int", x.sum(), 103079215056L);
        outcome(x, "48r" + MIN);
        due("below an int", x.sum(), -103079215104L);
        outcome(x, "0r" + MIN);
        due("of none", x.sum(), 0);
    }

    private static void held() {
        sentence("The number of elements of name k (0 A .. 7 H); -1 if it has no array or there is no such name.");
        RankCalc x = new RankCalc();
        outcome(x, "A:48r1");
        outcome(x, "H:7");
        outcome(x, "G:2 0r1");
        due("A, G, H", heldByAll(x), "48 -1 -1 -1 -1 -1 0 1");
        due("no such names", x.held(-1) + " " + x.held(8) + " " + x.held(Integer.MIN_VALUE) + " "
            + x.held(Integer.MAX_VALUE), "-1 -1 -1 -1");
        due("it is the name's, not the result's", outcome(x, "1 2 3") + x.held(7), "31");
        outcome(x, "A:1 2");
        due("a smaller one", x.held(0), 2);
    }

    private static void forget() {
        sentence("Name k has no array any more; false if it had none or there is no such name.");
        RankCalc x = new RankCalc();
        due("it had none", x.forget(0) + " " + x.forget(7), "false false");
        due("no such name", x.forget(-1) + " " + x.forget(8) + " " + x.forget(Integer.MIN_VALUE) + " "
            + x.forget(Integer.MAX_VALUE), "false false false false");
        outcome(x, "A:1 2");
        outcome(x, "H:i0");
        outcome(x, "B:A,A");
        due("H, without elements", x.forget(7) + " " + x.forget(7), "true false");
        due("A", x.forget(0) + " " + x.forget(0), "true false");
        due("B stays", heldByAll(x), "-1 4 -1 -1 -1 -1 -1 -1");
        due("the result stays", show(x) + x.done(), "4 [1 2 1 2]1");
        due("A has none", outcome(x, "A") + outcome(x, "A:A"), "NN");
        due("it can have one again", outcome(x, "A:5") + x.held(0) + x.forget(0), "11true");
    }

    private static void done() {
        sentence("How many functions were done in the latest run that was no -1");
        doneAfter(0, "7");
        doneAfter(0, "((7 8))");
        doneAfter(0, "A:7");
        doneAfter(1, "A:1+2");
        doneAfter(1, "+/7");
        doneAfter(1, "-\\1 2");
        doneAfter(1, "1 2+.*3 4");
        doneAfter(1, "1 2+@3 4");
        doneAfter(1, "t7");
        doneAfter(1, "H%H");
        doneAfter(3, "(i2)+i2");
        doneAfter(4, "-|*+/1 2 3");
        doneAfter(7, "1+(2+(3+(4+(5+(6+(7+8))))))");
        doneAfter(99, "1" + "+1".repeat(99));
        doneAfter(198, "1" + "-".repeat(198) + "2");
        RankCalc x = new RankCalc();
        outcome(x, "1+2+3");
        due("a -1 changes nothing", outcome(x, "1+") + x.done() + outcome(x, "") + x.done(), "-12-12");
        due("a later run counts anew", outcome(x, "1-2") + x.done() + outcome(x, "5") + x.done(), "1110");
        sentence("one with a fault not counted");
        doneAfter(0, "1%0");
        doneAfter(0, "i49");
        doneAfter(1, "1 2+1 2 3,4");
        doneAfter(2, "(1%0)+2*3-4");
        doneAfter(3, "(0p7)+(1+2)*3-4");
        doneAfter(1, "1+2+A*3-4");
        doneAfter(0, "1+A");
        doneAfter(2, times(49, "1") + "+2*3-4");
        due("a fault after a good run", outcome(x, "1+2+3") + x.done() + outcome(x, "1%0") + x.done(), "12D0");
        due("a -1 after a fault", outcome(x, "1%1-1") + x.done() + outcome(x, "1%") + x.done(), "D1-11");
        sentence("0 if there was none.");
        RankCalc y = new RankCalc();
        due("no run", y.done(), 0);
        due("no run but a -1", outcome(y, "1+1+") + y.done(), "-10");
    }
}
