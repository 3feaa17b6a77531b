import java.math.BigInteger;
import java.util.ArrayList;
import java.util.Arrays;
import java.util.List;
import java.util.NoSuchElementException;
import java.util.Random;

/** Compares RankCalc with a second reading of the document, recursive and with exact numbers. */
public final class ModelTest {
    private static final int OBJECTS = 12000;
    /** The document promises nothing beyond these, and one statement with a look at its state takes no more. */
    private static final int CALLS = 512;
    private static final int CALLS_OF_ONE = 120;
    private static final String F = "+-*%|<>=&^";
    private static final int[] LENGTHS = {0, 1, 2, 7, 48};
    private static final String[] TWO_OF_SHAPES = {"+", "%", "+.*", "-.%", "-@", "%@", "r", ",", "p"};
    private static final Random CHOICE = new Random(20261115);

    /** Thrown where the document tells a fault. */
    private static final class Fault extends RuntimeException {
        private static final long serialVersionUID = 1;

        Fault(String letter) {
            super(letter);
        }
    }

    private record Arr(List<Integer> lengths, List<Integer> cells) {
        int rank() {
            return lengths.size();
        }

        int first() {
            return lengths.get(0);
        }

        int last() {
            return lengths.get(rank() - 1);
        }

        List<Integer> allButLast() {
            return lengths.subList(0, rank() - 1);
        }

        List<Integer> allButFirst() {
            return lengths.subList(1, rank());
        }

        int at(List<Integer> where) {
            int k = 0;
            for (int a = 0; a < rank(); a++) {
                k = k * lengths.get(a) + where.get(a);
            }
            return cells.get(k);
        }
    }

    private interface Cell {
        int at(List<Integer> where);
    }

    private static final Arr[] NAMES = new Arr[8];
    private static Arr result;
    private static int done;
    private static String text;
    private static int at;
    private static int calls;

    public static void main(String[] args) {
        int[] kinds = new int[128];
        for (int k = 0; k < OBJECTS; k++) {
            oneObject(kinds);
        }
        everyShape(kinds);
        System.out.println("statements by outcome: made " + kinds['m'] + " refused " + kinds['-'] + " S " + kinds['S']
            + " D " + kinds['D'] + " L " + kinds['L'] + " R " + kinds['R'] + " X " + kinds['X'] + " N " + kinds['N']);
    }

    private static RankCalc newObject() {
        Arrays.fill(NAMES, null);
        result = new Arr(List.of(0), List.of());
        done = 0;
        calls = 0;
        return new RankCalc();
    }

    private static void oneObject(int[] kinds) {
        RankCalc x = newObject();
        StringBuilder story = new StringBuilder();
        boolean named = CHOICE.nextInt(3) > 0;
        for (int k = 0; calls + CALLS_OF_ONE <= CALLS; k++) {
            String statement = named && k < 8 ? (char) ('A' + k) + ":" + shapedNumbers()
                : CHOICE.nextInt(12) == 0 ? spoil(statement()) : statement();
            if (statement.length() > 200) {
                continue;
            }
            if (CHOICE.nextInt(8) == 0) {
                story.append(forget(x)).append('\n');
            }
            compare(x, statement, story, kinds);
        }
    }

    private static void compare(RankCalc x, String statement, StringBuilder story, int[] kinds) {
        story.append(statement).append('\n');
        String want = model(statement);
        String got = real(x, statement);
        kinds["SDLRXN-".contains(want.substring(0, 1)) ? want.charAt(0) : 'm']++;
        String wantState = want + " " + state();
        String gotState = got + " " + state(x);
        if (!wantState.equals(gotState)) {
            System.out.println(story + "answered " + gotState + "\n  due is " + wantState);
            System.exit(1);
        }
    }

    // Every function with one argument on every shape of these lengths, and some with two on every two of them.

    private static void everyShape(int[] kinds) {
        List<String> shapes = shapes();
        for (String left : shapes) {
            for (char f : F.toCharArray()) {
                statements(kinds, "A:" + left + "r1 0 2", f + "/A", f + "\\A");
            }
            statements(kinds, "A:" + left + "r1 _2 0", "-A", "|A", "*A", "iA");
            statements(kinds, "A:" + left + "ri48", "rA", ",A", "tA", "vA");
            for (String right : shapes) {
                for (String two : TWO_OF_SHAPES) {
                    statements(kinds, "A:" + left + "r1 0 2", "B:" + right + "r6 1 3", "A" + two + "B");
                }
                statements(kinds, "A:" + left + "r0", "B:" + right + "ri48", "ApB");
            }
        }
    }

    private static List<String> shapes() {
        List<String> shapes = new ArrayList<>(List.of("(i0)"));
        for (int x : LENGTHS) {
            shapes.add(String.valueOf(x));
            for (int y : LENGTHS) {
                if (x * y <= 48) {
                    shapes.add(x + " " + y);
                }
                for (int z : LENGTHS) {
                    if (x * y * z <= 48) {
                        shapes.add(x + " " + y + " " + z);
                    }
                }
            }
        }
        return shapes;
    }

    private static void statements(int[] kinds, String... statements) {
        RankCalc x = newObject();
        StringBuilder story = new StringBuilder();
        for (String statement : statements) {
            compare(x, statement, story, kinds);
        }
    }

    // What is tried.

    private static String pickOf(String... choices) {
        return choices[CHOICE.nextInt(choices.length)];
    }

    private static String f() {
        return String.valueOf(F.charAt(CHOICE.nextInt(F.length())));
    }

    private static String statement() {
        String start = CHOICE.nextInt(3) == 0 ? (char) ('A' + CHOICE.nextInt(8)) + ":" : "";
        return start + expression(CHOICE.nextInt(5), 0);
    }

    private static String expression(int more, int depth) {
        if (more <= 0) {
            return term(0, depth);
        }
        if (CHOICE.nextInt(5) < 2) {
            return pickOf("-", "|", "*", "i", "r", ",", "t", "v", f() + "/", f() + "\\") + blank()
                + expression(more - 1, depth);
        }
        String two = pickOf(f(), f(), f() + "." + f(), f() + "@", "r", ",", ",", "p");
        return term(more / 2, depth) + blank() + two + expression(more - 1, depth);
    }

    private static String blank() {
        return CHOICE.nextInt(4) == 0 ? " " : "";
    }

    private static String term(int more, int depth) {
        switch (CHOICE.nextInt(depth < 6 ? 7 : 3)) {
            case 0:
                return String.valueOf((char) ('A' + CHOICE.nextInt(8)));
            case 1:
            case 2:
                return numbers();
            case 3:
            case 4:
                return "(" + shapedNumbers() + ")";
            default:
                return "(" + expression(more, depth + 1) + ")";
        }
    }

    private static String shapedNumbers() {
        StringBuilder made = new StringBuilder();
        int rank = 1 + CHOICE.nextInt(3);
        for (int k = 0; k < rank; k++) {
            made.append(k == 0 ? "" : " ").append(pickOf("0", "1", "2", "2", "3", "3", "4", "7", "48"));
        }
        return made + "r" + pickOf(numbers(), "i" + CHOICE.nextInt(48));
    }

    private static String numbers() {
        StringBuilder made = new StringBuilder();
        int many = CHOICE.nextInt(40) == 0 ? 40 + CHOICE.nextInt(20) : 1 + CHOICE.nextInt(4);
        for (int k = 0; k < many; k++) {
            made.append(k == 0 ? "" : " ").append(CHOICE.nextInt(5) == 0 ? "_" : "");
            made.append(CHOICE.nextInt(15) == 0 ? pickOf("999999999", "65536", "49", "48") : CHOICE.nextInt(5));
        }
        return made.toString();
    }

    private static String spoil(String statement) {
        int k = CHOICE.nextInt(statement.length() + 1);
        String more = pickOf("", "", " ", "(", ")", ":", "_", "1", "+", ".", "@", "/", "\\", "x", "A", "p");
        int end = Math.min(statement.length(), k + CHOICE.nextInt(2));
        return statement.substring(0, k) + more + statement.substring(end);
    }

    // The two answers.

    private static String real(RankCalc x, String statement) {
        x.clear();
        for (int k = 0; k < statement.length(); k += 4) {
            x.feed(Checks.pack(statement, k));
            calls++;
        }
        calls += 2;
        try {
            return String.valueOf(x.run());
        } catch (IllegalStateException e) {
            return "S";
        } catch (ArithmeticException e) {
            return "D";
        } catch (IllegalArgumentException e) {
            return "L";
        } catch (UnsupportedOperationException e) {
            return "R";
        } catch (IndexOutOfBoundsException e) {
            return "X";
        } catch (NoSuchElementException e) {
            return "N";
        }
    }

    private static String forget(RankCalc x) {
        int k = CHOICE.nextInt(10) - 1;
        boolean want = k >= 0 && k < 8 && NAMES[k] != null;
        boolean got = x.forget(k);
        calls++;
        if (want) {
            NAMES[k] = null;
        }
        if (got != want) {
            System.out.println("forget(" + k + ") answered " + got + ", due is " + want);
            System.exit(1);
        }
        return "forget(" + k + ")";
    }

    private static String state(RankCalc x) {
        StringBuilder told = new StringBuilder();
        int rank = x.rank();
        for (int k = 0; k < rank; k++) {
            told.append(x.axis(k)).append(' ');
        }
        told.append('[');
        int size = x.size();
        for (int k = 0; k < size; k++) {
            told.append(x.element(k)).append(' ');
        }
        calls += 12 + rank + size;
        told.append("] sum ").append(x.sum()).append(" done ").append(x.done()).append(" held");
        for (int k = 0; k < 8; k++) {
            told.append(' ').append(x.held(k));
        }
        return told.toString();
    }

    private static String state() {
        StringBuilder told = new StringBuilder();
        result.lengths.forEach(length -> told.append(length).append(' '));
        told.append('[');
        result.cells.forEach(cell -> told.append(cell).append(' '));
        long sum = result.cells.stream().mapToLong(cell -> cell).sum();
        told.append("] sum ").append(sum).append(" done ").append(done).append(" held");
        for (Arr name : NAMES) {
            told.append(' ').append(name == null ? -1 : name.cells.size());
        }
        return told.toString();
    }

    private static String model(String statement) {
        Node root;
        text = statement;
        int target = -1;
        String bare = statement.replace(" ", "");
        if (bare.matches("[A-H]:.*")) {
            target = bare.charAt(0) - 'A';
            text = statement.substring(statement.indexOf(':') + 1);
        }
        at = 0;
        root = readExpression(0);
        skip();
        if (root == null || at < text.length()) {
            return "-1";
        }
        done = 0;
        try {
            result = root.value();
        } catch (Fault fault) {
            return fault.getMessage();
        }
        if (target >= 0) {
            NAMES[target] = result;
        }
        return String.valueOf(result.cells.size());
    }

    // The grammar, each rule by its words; null is no match.

    private interface Node {
        Arr value();
    }

    private static void skip() {
        while (at < text.length() && text.charAt(at) == ' ') {
            at++;
        }
    }

    private static char peek() {
        skip();
        return at < text.length() ? text.charAt(at) : '$';
    }

    private static boolean in(String set, char c) {
        return set.indexOf(c) >= 0;
    }

    private static Node readExpression(int depth) {
        int start = at;
        String one = readFunction(false);
        if (one != null) {
            Node right = readExpression(depth);
            return right == null ? null : () -> count(one(one, right.value()));
        }
        at = start;
        Node left = readTerm(depth);
        if (left == null) {
            return null;
        }
        int end = at;
        String two = readFunction(true);
        if (two == null) {
            at = end;
            return left;
        }
        Node right = readExpression(depth);
        if (right == null) {
            return null;
        }
        return () -> {
            Arr b = right.value();
            Arr a = left.value();
            return count(two(two, a, b));
        };
    }

    private static Arr count(Arr made) {
        done++;
        return made;
    }

    private static String readFunction(boolean two) {
        char c = peek();
        at++;
        if (!in(F, c)) {
            return in(two ? "r,p" : "ir,tv", c) ? String.valueOf(c) : null;
        }
        int end = at;
        char next = peek();
        at++;
        if (next == '/' || next == '\\') {
            return two ? null : "" + c + next;
        }
        if (two && next == '@') {
            return "" + c + next;
        }
        if (two && next == '.') {
            char g = peek();
            at++;
            return in(F, g) ? "" + c + next + g : null;
        }
        at = end;
        return two || in("-|*", c) ? String.valueOf(c) : null;
    }

    private static Node readTerm(int depth) {
        char c = peek();
        if (c >= 'A' && c <= 'H') {
            at++;
            return () -> {
                if (NAMES[c - 'A'] == null) {
                    throw new Fault("N");
                }
                return NAMES[c - 'A'];
            };
        }
        if (c == '(') {
            at++;
            Node inside = depth == 6 ? null : readExpression(depth + 1);
            if (inside == null || peek() != ')') {
                return null;
            }
            at++;
            return inside;
        }
        return readNumbers();
    }

    private static Node readNumbers() {
        List<Integer> numbers = new ArrayList<>();
        while (in("_0123456789", peek())) {
            int start = at;
            at++;
            while (at < text.length() && in("_0123456789", text.charAt(at))) {
                at++;
            }
            String number = text.substring(start, at);
            if (!number.matches("_?[0-9]{1,9}")) {
                return null;
            }
            numbers.add(Integer.parseInt(number.replace('_', '-')));
        }
        if (numbers.isEmpty()) {
            return null;
        }
        return () -> {
            need(numbers.size() <= 48, "S");
            return new Arr(numbers.size() == 1 ? List.of() : List.of(numbers.size()), numbers);
        };
    }

    // The functions, by the places of their elements.

    private static void need(boolean holds, String letter) {
        if (!holds) {
            throw new Fault(letter);
        }
    }

    private static List<Integer> joined(List<Integer> a, List<Integer> b) {
        List<Integer> both = new ArrayList<>(a);
        both.addAll(b);
        return both;
    }

    private static Arr make(List<Integer> lengths, Cell cell) {
        long product = 1;
        for (int length : lengths) {
            need(length <= 48, "S");
            product *= length;
        }
        need(product <= 48, "S");
        List<Integer> cells = new ArrayList<>();
        fill(lengths, List.of(), cell, cells);
        return new Arr(List.copyOf(lengths), cells);
    }

    private static void fill(List<Integer> lengths, List<Integer> where, Cell cell, List<Integer> cells) {
        if (where.size() == lengths.size()) {
            cells.add(cell.at(where));
            return;
        }
        for (int k = 0; k < lengths.get(where.size()); k++) {
            fill(lengths, joined(where, List.of(k)), cell, cells);
        }
    }

    private static int number(char f, int x, int y) {
        BigInteger a = BigInteger.valueOf(x);
        BigInteger b = BigInteger.valueOf(y);
        BigInteger made = switch (f) {
            case '+' -> a.add(b);
            case '-' -> a.subtract(b);
            case '*' -> a.multiply(b);
            case '%' -> {
                need(y != 0 && a.remainder(b).signum() == 0, "D");
                yield a.divide(b);
            }
            case '|' -> x == 0 ? b : b.subtract(a.multiply(floor(b, a)));
            case '<' -> BigInteger.valueOf(x < y ? 1 : 0);
            case '>' -> BigInteger.valueOf(x > y ? 1 : 0);
            case '=' -> BigInteger.valueOf(x == y ? 1 : 0);
            case '&' -> a.min(b);
            default -> a.max(b);
        };
        need(made.bitLength() < 32, "S");
        return made.intValue();
    }

    private static BigInteger floor(BigInteger b, BigInteger a) {
        BigInteger[] parts = b.divideAndRemainder(a);
        return parts[1].signum() * a.signum() < 0 ? parts[0].subtract(BigInteger.ONE) : parts[0];
    }

    private static int fold(char f, List<Integer> row) {
        if (row.isEmpty()) {
            need(f == '+' || f == '*', "D");
            return f == '+' ? 0 : 1;
        }
        return row.size() == 1 ? row.get(0) : number(f, row.get(0), fold(f, row.subList(1, row.size())));
    }

    private static List<Integer> row(Arr a, List<Integer> where, int length) {
        List<Integer> made = new ArrayList<>();
        for (int k = 0; k < length; k++) {
            made.add(a.at(joined(where, List.of(k))));
        }
        return made;
    }

    private static List<Integer> butLast(List<Integer> where) {
        return where.subList(0, where.size() - 1);
    }

    private static int last(List<Integer> where) {
        return where.get(where.size() - 1);
    }

    private static List<Integer> reversed(List<Integer> list) {
        List<Integer> made = new ArrayList<>();
        list.forEach(k -> made.add(0, k));
        return made;
    }

    private static Arr one(String function, Arr a) {
        char f = function.charAt(0);
        if (function.endsWith("/")) {
            return a.rank() == 0 ? a : make(a.allButLast(), w -> fold(f, row(a, w, a.last())));
        }
        if (function.endsWith("\\")) {
            return a.rank() == 0 ? a : make(a.lengths, w -> fold(f, row(a, butLast(w), last(w) + 1)));
        }
        switch (f) {
            case '-':
                return make(a.lengths, w -> number('-', 0, a.at(w)));
            case '|':
                return make(a.lengths, w -> a.at(w) < 0 ? number('-', 0, a.at(w)) : a.at(w));
            case '*':
                return make(a.lengths, w -> Integer.compare(a.at(w), 0));
            case 'i':
                need(a.rank() < 2, "R");
                need(a.rank() == 0 || a.first() == 1, "L");
                need(a.cells.get(0) >= 0, "D");
                return make(List.of(a.cells.get(0)), w -> w.get(0));
            case 'r':
                return make(List.of(a.rank()), w -> a.lengths.get(w.get(0)));
            case ',':
                return make(List.of(a.cells.size()), w -> a.cells.get(w.get(0)));
            case 't':
                return make(reversed(a.lengths), w -> a.at(reversed(w)));
            default:
                return a.rank() == 0 ? a
                    : make(a.lengths, w -> a.at(joined(butLast(w), List.of(a.last() - 1 - last(w)))));
        }
    }

    private static Arr two(String function, Arr a, Arr b) {
        char f = function.charAt(0);
        if (function.endsWith("@")) {
            need(a.rank() + b.rank() <= 3, "R");
            return make(joined(a.lengths, b.lengths), w -> number(f, a.at(w.subList(0, a.rank())),
                b.at(w.subList(a.rank(), w.size()))));
        }
        if (function.length() == 3) {
            return inner(f, function.charAt(2), a, b);
        }
        switch (f) {
            case 'r':
                return reshape(a, b);
            case ',':
                return join(a, b);
            case 'p':
                return pick(a, b);
            default:
                return each(f, a, b);
        }
    }

    private static Arr each(char f, Arr a, Arr b) {
        if (a.rank() == 0) {
            return make(b.lengths, w -> number(f, a.cells.get(0), b.at(w)));
        }
        if (b.rank() == 0) {
            return make(a.lengths, w -> number(f, a.at(w), b.cells.get(0)));
        }
        need(a.rank() == b.rank(), "R");
        need(a.lengths.equals(b.lengths), "L");
        return make(a.lengths, w -> number(f, a.at(w), b.at(w)));
    }

    private static Arr inner(char f, char g, Arr a, Arr b) {
        need(a.rank() > 0 && b.rank() > 0 && a.rank() + b.rank() <= 5, "R");
        need(a.last() == b.first(), "L");
        return make(joined(a.allButLast(), b.allButFirst()), w -> {
            List<Integer> row = new ArrayList<>();
            for (int k = 0; k < a.last(); k++) {
                row.add(number(g, a.at(joined(w.subList(0, a.rank() - 1), List.of(k))),
                    b.at(joined(List.of(k), w.subList(a.rank() - 1, w.size())))));
            }
            return fold(f, row);
        });
    }

    private static Arr reshape(Arr a, Arr b) {
        need(a.rank() < 2 && a.cells.size() <= 3, "R");
        need(a.cells.stream().allMatch(length -> length >= 0), "D");
        Arr places = make(a.cells, w -> 0);
        need(places.cells.isEmpty() || !b.cells.isEmpty(), "L");
        List<Integer> cells = new ArrayList<>();
        for (int k = 0; k < places.cells.size(); k++) {
            cells.add(b.cells.get(k % b.cells.size()));
        }
        return new Arr(places.lengths, cells);
    }

    private static Arr join(Arr a, Arr b) {
        if (a.rank() == 0 && b.rank() == 0) {
            return new Arr(List.of(2), joined(a.cells, b.cells));
        }
        Arr left = a.rank() == 0 ? spread(a, b) : a;
        Arr right = b.rank() == 0 ? spread(b, a) : b;
        need(Math.abs(left.rank() - right.rank()) < 2, "R");
        Arr x = left.rank() < right.rank() ? new Arr(joined(left.lengths, List.of(1)), left.cells) : left;
        Arr y = right.rank() < left.rank() ? new Arr(joined(right.lengths, List.of(1)), right.cells) : right;
        need(x.allButLast().equals(y.allButLast()), "L");
        return make(joined(x.allButLast(), List.of(x.last() + y.last())), w -> last(w) < x.last() ? x.at(w)
            : y.at(joined(butLast(w), List.of(last(w) - x.last()))));
    }

    private static Arr spread(Arr scalar, Arr other) {
        List<Integer> lengths = joined(other.allButLast(), List.of(1));
        int many = lengths.stream().reduce(1, (x, y) -> x * y);
        return new Arr(lengths, java.util.Collections.nCopies(many, scalar.cells.get(0)));
    }

    private static Arr pick(Arr a, Arr b) {
        need(b.rank() > 0 && a.rank() + b.rank() <= 4, "R");
        List<Integer> lengths = joined(a.lengths, b.allButFirst());
        int[] many = {1};
        lengths.forEach(length -> many[0] *= length);
        need(many[0] <= 48, "S");
        for (int index : a.cells) {
            need(index >= 0 && index < b.first(), "X");
        }
        return make(lengths, w -> b.at(joined(List.of(a.at(w.subList(0, a.rank()))), w.subList(a.rank(), w.size()))));
    }
}
