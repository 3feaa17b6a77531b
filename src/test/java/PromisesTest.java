import java.lang.reflect.Member;
import java.lang.reflect.Modifier;
import java.util.TreeSet;

/** Each promise by examples: ordinary inputs, the edges that the document names, and wrong inputs. */
public final class PromisesTest extends Checks {
    public static void main(String[] args) {
        face();
        newObject();
        feed();
        clear();
        runState();
        lookingAtTheResult();
        names();
        done();
        tokens();
        grammar();
        terms();
        numberFunctionsOfTwo();
        numberFunctionsOfOne();
        orderOfEvaluation();
        reduction();
        scan();
        innerProduct();
        outerProduct();
        countAndShape();
        reshape();
        ravelAndJoin();
        transposeAndReverse();
        pick();
        end("all promises hold");
    }

    private static void face() {
        TreeSet<String> seen = new TreeSet<>();
        for (Member m : RankCalc.class.getDeclaredMethods()) {
            addIfVisible(seen, m);
        }
        for (Member m : RankCalc.class.getDeclaredFields()) {
            addIfVisible(seen, m);
        }
        due("the face", seen, "[axis, clear, done, element, feed, forget, held, rank, run, size, sum]");
        due("final", Modifier.isFinal(RankCalc.class.getModifiers()), true);
    }

    private static void addIfVisible(TreeSet<String> seen, Member m) {
        if (!Modifier.isPrivate(m.getModifiers())) {
            seen.add(m.getName());
        }
    }

    private static void newObject() {
        RankCalc x = new RankCalc();
        due("new: rank", x.rank(), 1);
        due("new: axis(0)", x.axis(0), 0);
        due("new: size", x.size(), 0);
        due("new: element(0)", x.element(0), 4294967296L);
        due("new: sum", x.sum(), 0);
        due("new: done", x.done(), 0);
        for (int k = 0; k < 8; k++) {
            due("new: held(" + k + ")", x.held(k), -1);
        }
        due("new: run", outcome(x), -1);
        RankCalc y = new RankCalc();
        outcome(y, "A:1 2 3");
        due("objects share nothing", x.size() + " " + x.held(0), "0 -1");
    }

    private static void feed() {
        RankCalc x = new RankCalc();
        due("feed(0)", x.feed(0), 0);
        due("feed of 0 first", x.feed('1' << 8), 0);
        due("feed 1", x.feed('1'), 1);
        due("feed 2 up to a 0", x.feed('2' | '3' << 8 | '4' << 24), 2);
        due("text is 123", outcome(x) + show(x), "1[123]");
        due("feed 3", x.feed('4' | '5' << 8 | '6' << 16), 3);
        due("text is 123456", outcome(x) + show(x), "1[123456]");
        due("feed of code 255 four times", x.feed(-1), 4);
        due("text has wrong codes", outcome(x), -1);
        x.clear();
        for (int k = 0; k < 49; k++) {
            due("feed of blanks", x.feed(pack("    ", 0)), 4);
        }
        due("197", x.feed('7'), 1);
        due("201 are too many", x.feed(pack("++++", 0)), -1);
        due("200", x.feed(pack("+41", 0)), 3);
        due("one too many", x.feed('1'), -1);
        due("none more", x.feed(0), 0);
        due("a text of 200", outcome(x) + show(x), "1[48]");
    }

    private static void clear() {
        RankCalc x = new RankCalc();
        x.clear();
        due("cleared twice", outcome(x), -1);
        outcome(x, "A:-1 2 3");
        x.clear();
        due("clear empties the text", outcome(x), -1);
        due("clear leaves the rest", show(x) + x.held(0) + x.done(), "3 [-1 -2 -3]31");
        due("feed after clear", x.feed('9'), 1);
        due("new text", outcome(x) + show(x), "1[9]");
    }

    private static void runState() {
        RankCalc x = new RankCalc();
        outcome(x, "A:A,1");
        due("no A yet", x.held(0) + show(x), "-10 []");
        outcome(x, "A:1");
        outcome(x, "A:A,A");
        due("run leaves the text", outcome(x) + show(x), "44 [1 1 1 1]");
        due("a fault leaves name and result", outcome(x, "A:A%0") + x.held(0) + show(x), "D44 [1 1 1 1]");
        due("no statement leaves them", outcome(x, "A:5+") + x.held(0) + show(x), "-144 [1 1 1 1]");
        due("a result without a name", outcome(x, "7") + x.held(0) + show(x), "14[7]");
        due("other names keep theirs", outcome(x, "H:A+1") + x.held(0) + x.held(7), "444");
        due("a fault late in a statement", outcome(x, "A:B+1+2+A") + x.held(0) + show(x), "N44 [2 2 2 2]");
    }

    private static void lookingAtTheResult() {
        RankCalc x = new RankCalc();
        outcome(x, "2 3 4r i24");
        due("rank", x.rank(), 3);
        due("axes", x.axis(0) + " " + x.axis(1) + " " + x.axis(2), "2 3 4");
        due("no such axis", x.axis(3) + " " + x.axis(-1) + " " + x.axis(Integer.MIN_VALUE), "-1 -1 -1");
        due("size", x.size(), 24);
        due("elements", x.element(0) + " " + x.element(23), "0 23");
        due("no element", x.element(24) + " " + x.element(-1), "4294967296 4294967296");
        due("no element far out", x.element(Integer.MAX_VALUE), 4294967296L);
        due("sum", x.sum(), 276);
        outcome(x, "7");
        due("a scalar", x.rank() + " " + x.axis(0) + " " + x.size() + " " + x.element(0), "0 -1 1 7");
        due("no element of a smaller result", x.element(1), 4294967296L);
        outcome(x, "48r" + MAX);
        due("a sum above an int", x.sum(), 48L * Integer.MAX_VALUE);
        outcome(x, "48r" + MIN);
        due("a sum below an int", x.sum(), 48L * Integer.MIN_VALUE);
        outcome(x, "0 5 0r1");
        due("no elements", x.rank() + " " + x.axis(1) + " " + x.size() + " " + x.sum(), "3 5 0 0");
    }

    private static void names() {
        RankCalc x = new RankCalc();
        for (int k = 0; k < 8; k++) {
            outcome(x, (char) ('A' + k) + ": i " + k);
        }
        for (int k = 0; k < 8; k++) {
            due("held(" + k + ")", x.held(k), k);
        }
        due("no such name", x.held(8) + " " + x.held(-1) + " " + x.forget(8) + " " + x.forget(-1), "-1 -1 false false");
        due("far out", x.forget(Integer.MIN_VALUE) + " " + x.held(Integer.MAX_VALUE), "false -1");
        due("forget", x.forget(0) + " " + x.held(0) + " " + x.forget(0), "true -1 false");
        due("the others stay", x.held(1) + " " + x.held(7), "1 7");
        due("the result stays", show(x), "7 [0 1 2 3 4 5 6]");
        due("a forgotten name", outcome(x, "A"), "N");
        due("named again", outcome(x, "A:3 4") + x.held(0), "22");
        makes("2 [1 2]", "A:1 2", "B:A", "A:3", "B");
        answers("-1", "I");
        answers("-1", "a");
    }

    private static void done() {
        RankCalc x = new RankCalc();
        String[][] rows = {
            {"7", "0"}, {"1+2", "1"}, {"A:1+2", "1"}, {"(1)", "0"}, {"-|*+/1 2 3", "4"}, {"1+", "4"}, {"x", "4"},
            {"+\\2 2r i4", "3"}, {"1 2+.*3 4", "1"}, {"1 2+@3 4", "1"}, {"1+2*1%0", "0"}, {"(1%0)+2*3-4", "2"},
            {"B+2*3", "1"}, {"1 2+1 2 3,4", "1"}, {"(+/i4)*-5", "4"}, {"B", "0"}, {"+/7", "1"}, {"", "1"},
        };
        for (String[] row : rows) {
            outcome(x, row[0]);
            due("done after " + row[0], x.done(), row[1]);
        }
    }

    private static void tokens() {
        makes("[7]", " 7 ");
        makes("[7]", "007");
        makes("[0]", "_0");
        makes("[-7]", "_7");
        makes("[999999999]", "999999999");
        makes("[-999999999]", "_999999999");
        makes("2 [1 -2]", "1 _2");
        makes("[3]", "1  +   2");
        makes("[3]", " + / 1 2");
        makes("[11]", "1 2 + . * 3 4");
        makes("2 [4 5]", "1+3 4");
        makes("2 [0 1]", "A : i2");
        for (String text : new String[] {"", " ", "1_2", "1_", "_", "__1", "_ 1", "_A", "1234567890", "_1234567890",
            "0000000001", "1x", "x", "1\t2", "1\n", "\u00ff", "1;2", "1!", "[1]", "1~2", "12_3", "1+_", "#", "I:1",
            "\u0001", "n", "_+1", "1 _"}) {
            answers("-1", text);
        }
    }

    private static void grammar() {
        for (String text : new String[] {"1+", "+1", "%1", "<1", ">1", "=1", "&1", "^1", "p1", "1 i 2", "1t2", "1v2",
            "1(2)", "(1)2", "(1)(2)", "A B", "A 1", "1 A", "()", "(", ")", "(1", "1)", ")1(", "(1))", "A:", ":1",
            "A:B:1", "(A:1)", "1:2", "A::1", "1+A:2", "/1", "\\1", ".", "@", "1.2", "1@2", "1+/2", "1+\\2", "+.*1",
            "+@1", "1+.2", "1+.", "1+.A", "1+.r2", "1r.+2", "1r@2", "1,@2", "r/1", "i/1", ",/1", "p/1", "t\\1", "v\\1",
            "1+.*.-2", "1+@@2", "+//1", "1+@.*2", "(((((((7)))))))", "(1+)2", "1)+(2", "-", "i", "r", "1,", "1 2 p",
            "1p.+2", "1+.(2)", "1 + . 2", "(-)1", "A:()"}) {
            answers("-1", text);
        }
        makes("[7]", "((((((7))))))");
        makes("[28]", "((((((1)+2)+3)+4)+5)+6)+7");
        makes("[14]", "((((((7)))))) + ((((((7))))))");
        makes("[28]", "1+(2+(3+(4+(5+(6+(7))))))");
        makes("[3]", "1" + "-".repeat(198) + "2");
        makes("[1]", "-".repeat(198) + "1");
        makes("[100]", "1" + "+1".repeat(99));
        makes("[0]", "2*(1+2)-3");
        makes("[4]", "10-5-1-2");
        makes("[3]", "1--2");
        makes("[1]", "1+*_0");
        makes("2 [1 1]", "1*(*5 6)");
        answers("-1", "-".repeat(200));
        answers("-1", "(".repeat(200));
        answers("-1", "A:B:C:1%0");
    }

    private static void terms() {
        makes("[5]", "5");
        makes("2 [5 6]", "5 6");
        makes("48 [" + "3 ".repeat(47) + "3]", "3 ".repeat(48));
        answers("S", "3 ".repeat(49));
        answers("S", "3 ".repeat(100));
        answers("D", "3 ".repeat(49) + "+1%0");
        answers("S", "(1%0)+" + "3 ".repeat(49));
        answers("N", "A");
        answers("N", "B:B");
        makes("3 [1 2 3]", "(1 2 3)");
    }

    private static void numberFunctionsOfTwo() {
        makes("[5]", "2+3");
        makes("[-1]", "2-3");
        makes("[6]", "2*3");
        makes("4 [3 -3 -3 0]", "9 _9 9 0%3 3 _3 5");
        answers("D", "1%0");
        answers("D", "0%0");
        answers("D", "7%2");
        answers("D", "_1%2");
        answers("S", MIN + "%_1");
        makes("[-1073741824]", MIN + "%2");
        makes("8 [1 2 -2 -1 5 -5 0 0]", "3 3 _3 _3 0 0 4 _4|7 _7 7 _7 5 _5 8 8");
        makes("[0]", "_1|" + MIN);
        makes("[-1]", MIN + "|_1");
        makes("[-2147483647]", MIN + "|1");
        makes("[2147483646]", MAX + "|_1");
        makes("[-2147483648]", "0|" + MIN);
        makes("3 [1 0 0]", "1 2 3<2");
        makes("3 [0 0 1]", "1 2 3>2");
        makes("3 [0 1 0]", "1 2 3=2");
        makes("[1]", MIN + "<" + MAX);
        makes("[0]", MIN + ">" + MAX);
        makes("3 [1 -2 3]", "1 _2 5&3");
        makes("3 [3 3 5]", "1 _2 5^3");
        makes("[2147483647]", MAX);
        makes("[-2147483648]", MIN);
        answers("S", "1+" + MAX);
        answers("S", MIN + "-1");
        answers("S", MAX + "*2");
        answers("S", "65536*65536");
        answers("S", "65536*65536*65536");
        answers("S", MIN + "*" + MIN);
        makes("2 2 [5 7 9 11]", "(2 2r i4)+2 2r5 6 7 8");
        makes("2 2 [5 6 7 8]", "5+2 2r i4");
        makes("2 2 [-5 -4 -3 -2]", "(2 2r i4)-5");
        makes("0 []", "5+i0");
        makes("0 []", "(i0)%0");
        makes("1 [3]", "2+,1");
        makes("2 0 []", "(2 0r1)+2 0r1");
        answers("R", "(2 2r1)+1 2");
        answers("R", "(,1)+1 1r1");
        answers("R", "(1 1r1)+1 2");
        answers("L", "1 2+1 2 3");
        answers("L", "(,1)+1 2");
        answers("L", "(2 3r1)+3 2r1");
        answers("L", "(1 2 0r1)+1 3 0r1");
        answers("D", "1 65536%0 65536");
        answers("S", "(" + MIN + ",1)%_1 0");
        answers("D", "(1," + MIN + ")%0 _1");
    }

    private static void numberFunctionsOfOne() {
        makes("3 [-1 0 2]", "-1 0 _2");
        makes("3 [1 0 2]", "|1 0 _2");
        makes("3 [1 0 -1]", "*7 0 _9");
        makes("[-2147483647]", "-" + MAX);
        makes("[-1]", "*" + MIN);
        answers("S", "-" + MIN);
        answers("S", "|" + MIN);
        makes("2 2 [0 -1 -2 -3]", "-2 2r i4");
        makes("0 []", "|i0");
        makes("1 [-1]", "-,1");
    }

    private static void orderOfEvaluation() {
        answers("D", "A+1%0");
        answers("N", "(1%0)+A");
        answers("N", "(1%0)+(A)");
        answers("S", "(A+1)*(1%0)-" + MIN + "-1");
        answers("N", "(7%2),(1 2+1 2 3),(B)");
        answers("L", "(7%2),(1 2+1 2 3),(5)");
        makes("[9]", "A:4", "(A+1)+A");
        makes("[-6]", "A:4", "A:(A-1)-9");
        makes("[22]", "((1+2)*3)+(4+5)+(1*4)");
    }

    private static void reduction() {
        makes("[6]", "+/1 2 3");
        makes("[2]", "-/1 2 3");
        makes("[24]", "*/1 2 3 4");
        makes("[6]", "%/12 4 2");
        makes("[1]", "|/2 5 6");
        makes("[9]", "^/3 9 4");
        makes("[3]", "&/9 3 4");
        makes("[0]", "=/2 2 1");
        makes("[1]", "=/1 2 2");
        makes("[0]", "</3 1 2");
        makes("[1]", ">/2 1 2");
        makes("2 [3 12]", "+/2 3r i6");
        makes("2 2 [3 12 21 30]", "+/2 2 3r i12");
        makes("[7]", "-/7");
        makes("[7]", "%/,7");
        makes("[0]", "+/i0");
        makes("[1]", "*/i0");
        for (char f : "-%|<>=&^".toCharArray()) {
            answers("D", f + "/i0");
            answers("D", f + "/3 0r1");
            makes("0 []", f + "/0 3r1");
            makes("0 []", f + "/0 0r1");
            makes("0 0 []", f + "/0 0 0r1");
            makes("[5]", f + "/5");
        }
        makes("3 [0 0 0]", "+/3 0r1");
        makes("3 [1 1 1]", "*/3 0r1");
        answers("S", "+/48 48 0r1");
        answers("S", "-/7 7 0r1");
        makes("[0]", "+/(" + MAX + ",0," + MIN + "),1");
        answers("S", "+/(" + MIN + ",1," + MAX + "),1");
        answers("S", "+/" + MAX + ",1");
        answers("D", "%/2 2r4 0 65536 1");
        answers("S", "*/2 2r65536 65536 1 1");
    }

    private static void scan() {
        makes("3 [1 3 6]", "+\\1 2 3");
        makes("4 [1 -1 2 -2]", "-\\1 2 3 4");
        makes("2 3 [0 1 3 3 7 12]", "+\\2 3r i6");
        makes("2 1 2 [0 -1 2 -1]", "-\\2 1 2r i4");
        makes("[7]", "-\\7");
        makes("0 []", "-\\i0");
        makes("3 0 []", "%\\3 0r1");
        makes("48 48 0 []", "%\\48 48 0r1");
        answers("S", "+\\(" + MAX + ",1),_1");
        answers("D", "%\\7 2 2");
        makes("[7]", "%/7 2 2");
        makes("3 [8 4 4]", "%\\8 2 1");
        makes("1 [5]", "%\\,5");
    }

    private static void innerProduct() {
        makes("[11]", "1 2+.*3 4");
        makes("2 2 [7 10 15 22]", "A:2 2r1 2 3 4", "A+.*A");
        makes("2 [14 32]", "(2 3r1 2 3 4 5 6)+.*1 2 3");
        makes("3 [9 12 15]", "1 2+.*2 3r1 2 3 4 5 6");
        makes("2 2 2 [2 3 2 3 6 11 6 11]", "(2 2 2r0 1 0 1 2 3 2 3)+.*2 2r0 1 2 3");
        makes("1 3 1 [0 1 2]", "(1 1r1)+.*1 3 1r i3");
        makes("[-1]", "1 2 3-.*1 1 0");
        makes("[0]", "1 2-.+4 3");
        makes("[1]", "1 2&.=1 2");
        makes("[0]", "(i0)+.*i0");
        makes("[1]", "(i0)*.-i0");
        answers("D", "(i0)-.*i0");
        makes("2 3 [0 0 0 0 0 0]", "(2 0r1)+.*0 3r1");
        answers("D", "(2 0r1)^.*0 3r1");
        makes("0 3 []", "(0 0r1)^.*0 3r1");
        makes("2 0 []", "(2 2r1)^.*2 0r1");
        answers("S", "(48 0r1)-.*0 48r1");
        answers("S", "(7 1r1)+.*1 7r1");
        makes("6 8 [" + "1 ".repeat(47) + "1]", "(6 1r1)+.*1 8r1");
        answers("R", "1+.*1 2");
        answers("R", "1 2+.*1");
        answers("R", "1+.*1");
        answers("R", "(1 1 1r1)+.*1 1 1r1");
        answers("R", "(2 2 2r1)+.*3 1 1r1");
        answers("L", "1 2+.*1 2 3");
        answers("L", "(2 3r1)+.*2 3r1");
        answers("L", "(48 1r1)+.*2 24r1");
        answers("D", "65536 1*.%1 0");
        answers("S", "65536 65536*.*65536 0");
        answers("S", "(2 2r65536 65536 1 1)*.%2 1r1 1");
        answers("S", "(2 2r65536 65536 1 1)*.%2 2r1 1 1 1");
        answers("S", "(2 2r65536 65536 1 3)*.%2 1r1 1");
        answers("D", "(2 2r1 3 65536 65536)*.%2 1r1 2");
        answers("D", "1 2*.%0 2");
        answers("D", "65536 65536 1*.%1 1 0");
    }

    private static void outerProduct() {
        makes("3 2 [1 2 2 4 3 6]", "1 2 3*@1 2");
        makes("2 2 2 [0 -1 1 0 2 1 3 2]", "(2 2r i4)-@0 1");
        makes("2 1 2 [5 6 6 7]", "0 1+@1 2r5 6");
        makes("[3]", "1+@2");
        makes("2 2 1 [1 2 3 4]", "0+@2 2 1r1 2 3 4");
        makes("2 2 1 [1 2 3 4]", "(2 2 1r1 2 3 4)+@0");
        makes("0 2 []", "(i0)%@0 0");
        answers("R", "(2 2r1)+@2 2r1");
        answers("R", "(1 1 1r1)+@,1");
        answers("R", "(48 48 0r1)+@7 7 0r1");
        answers("S", "(i7)+@i7");
        makes("6 8 [" + "0 ".repeat(47) + "0]", "(6r0)+@8r0");
        answers("S", "(7r1)%@7r0");
        answers("D", "1 65536*@65536 0%0");
        answers("S", "(" + MIN + ",1)%@_1 0");
        answers("D", "(0," + MIN + ")%@0 _1");
    }

    private static void countAndShape() {
        makes("3 [0 1 2]", "i3");
        makes("3 [0 1 2]", "i,3");
        makes("0 []", "i0");
        makes("48 " + java.util.stream.IntStream.range(0, 48).boxed().toList().toString().replace(",", ""), "i48");
        answers("R", "i1 1r3");
        answers("R", "i2 2r_3");
        answers("L", "i1 2");
        answers("L", "i_1 _2");
        answers("L", "i i0");
        answers("D", "i_1");
        answers("D", "i,_1");
        answers("D", "i" + MIN);
        answers("S", "i49");
        answers("S", "i,49");
        answers("S", "i" + MAX);
        makes("0 []", "r7");
        makes("1 [3]", "r1 2 3");
        makes("2 [2 0]", "r2 0r1");
        makes("3 [2 3 4]", "r2 3 4r1");
    }

    private static void reshape() {
        makes("2 3 [0 1 2 3 4 5]", "2 3r i6");
        makes("5 [1 2 1 2 1]", "5r1 2");
        makes("2 [0 1]", "2r2 2r i4");
        makes("1 1 1 [9]", "1 1 1r9 8");
        makes("[9]", "(i0)r9 8");
        answers("L", "(i0)r i0");
        makes("0 []", "0r5");
        makes("0 []", "0r i0");
        makes("48 48 0 []", "48 48 0r i0");
        makes("0 48 48 []", "0 48 48r1");
        makes("1 [5]", "(,1)r5");
        answers("R", "(1 1r1)r5");
        answers("R", "(0 0r1)r5");
        answers("R", "1 1 1 1r5");
        answers("R", "_1 1 1 1r5");
        answers("D", "_1r5");
        answers("D", "49 _1r5");
        answers("D", "_1 49r5");
        answers("D", "0 _1r i0");
        answers("D", "_1r i0");
        answers("S", "49r5");
        answers("S", "0 49r5");
        answers("S", "49 0r i0");
        answers("S", "49r i0");
        answers("S", "7 7r i0");
        answers("S", "7 7r5");
        answers("S", "48 48 48r5");
        answers("S", MAX + "r5");
        answers("S", "(65536,65536)r5");
        answers("L", "2r i0");
        answers("L", "6 8r0 3r1");
    }

    private static void ravelAndJoin() {
        makes("4 [0 1 2 3]", ",2 2r i4");
        makes("1 [7]", ",7");
        makes("0 []", ",3 0r1");
        makes("2 [1 2]", "1,2");
        makes("3 [1 2 3]", "1 2,3");
        makes("3 [1 2 3]", "1,2 3");
        makes("5 [1 2 3 4 5]", "1 2,3 4 5");
        makes("1 [7]", "7,i0");
        makes("0 []", "(i0),i0");
        makes("2 3 [0 1 9 2 3 9]", "(2 2r i4),9");
        makes("2 3 [9 0 1 9 2 3]", "9,2 2r i4");
        makes("2 3 [7 0 1 8 2 3]", "7 8,2 2r i4");
        makes("2 3 [0 1 7 2 3 8]", "(2 2r i4),7 8");
        makes("2 3 [9 0 1 8 2 3]", "(2 1r9 8),2 2r i4");
        makes("2 1 3 [0 1 9 2 3 9]", "(2 1 2r i4),9");
        makes("2 1 3 [0 1 8 2 3 9]", "(2 1 2r i4),2 1r8 9");
        makes("2 1 3 [8 0 1 9 2 3]", "(2 1r8 9),2 1 2r i4");
        makes("1 2 3 [0 4 5 1 6 7]", "(1 2 1r i2),1 2 2r4 5 6 7");
        makes("3 1 [9 9 9]", "(3 0r1),9");
        makes("3 1 [4 5 6]", "(3 0r1),4 5 6");
        makes("0 3 []", "(0 2r1),9");
        answers("R", "1 2,1 2 2r1");
        answers("R", "(1 2 2r1),9 9");
        answers("L", "1 2 3,2 2r1");
        answers("L", "(2 2r1),3 3r1");
        answers("L", "(2 2 1r1),2 3 1r1");
        answers("L", "(2 2 1r1),2 3r1");
        answers("L", "(2 3r1),2 2 1r1");
        answers("L", "(24 2r1),1 48r1");
        answers("S", "(48r1),1");
        answers("S", "(24 2r1),1");
        answers("S", "(0 30r1),0 30r1");
        answers("S", "1,48 48 0r1");
        makes("48 [" + "1 ".repeat(47) + "2]", "(47r1),2");
    }

    private static void transposeAndReverse() {
        makes("[7]", "t7");
        makes("3 [1 2 3]", "t1 2 3");
        makes("3 2 [0 3 1 4 2 5]", "t2 3r i6");
        makes("4 3 2 [0 12 4 16 8 20 1 13 5 17 9 21 2 14 6 18 10 22 3 15 7 19 11 23]", "t2 3 4r i24");
        makes("0 48 48 []", "t48 48 0r1");
        makes("0 2 []", "t2 0r1");
        makes("[7]", "v7");
        makes("3 [3 2 1]", "v1 2 3");
        makes("2 3 [2 1 0 5 4 3]", "v2 3r i6");
        makes("2 1 2 [1 0 3 2]", "v2 1 2r i4");
        makes("0 []", "vi0");
        makes("2 0 []", "v2 0r1");
    }

    private static void pick() {
        makes("[6]", "1p5 6 7");
        makes("3 [7 5 5]", "2 0 0p5 6 7");
        makes("2 [2 3]", "1p2 2r i4");
        makes("2 2 [2 3 0 1]", "1 0p2 2r i4");
        makes("1 2 2 [3 4 1 2]", "(1 2r1 0)p2 2r1 2 3 4");
        makes("2 2 [4 5 6 7]", "1p2 2 2r i8");
        makes("1 2 2 [4 5 6 7]", "(,1)p2 2 2r i8");
        makes("1 1 2 [9 8]", "(1 1 2r1 0)p8 9");
        makes("0 []", "(i0)p i0");
        makes("0 2 []", "(i0)p3 2r1");
        makes("2 0 []", "0 1p2 0r1");
        answers("X", "0 2p2 0r1");
        answers("X", "2p5 6");
        answers("X", "_1p5 6");
        answers("X", "0 1 2p5 6");
        answers("X", "0p i0");
        answers("X", MIN + "p5 6");
        answers("X", MAX + "p5 6");
        answers("R", "0p7");
        answers("R", "9 9p7");
        answers("R", "(0 0r1)p1 1 1r1");
        answers("R", "(1 1 1r0)p1 1r1");
        answers("S", "(25r0)p1 2r1");
        answers("S", "(25r9)p1 2r1");
        answers("S", "0p0 48 48r1");
        makes("24 2 [" + "1 ".repeat(47) + "1]", "(24r0)p1 2r1");
    }
}
