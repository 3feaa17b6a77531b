import java.util.NoSuchElementException;

/** A calculator for whole arrays: a text is fed, run as one statement, and its result looked at. */
public final class RankCalc {
    private static final int MOST_TEXT = 200;
    private static final int MOST_CELLS = 48;
    private static final int MOST_AXES = 3;
    private static final int MOST_DEPTH = 6;
    private static final int NAMES = 8;
    private static final long NO_ELEMENT = 4294967296L;

    private final char[] text = new char[MOST_TEXT];
    private int textLength = 0;
    private final Script script = new Script();
    private final Shelf shelf = new Shelf();
    private final Bench bench = new Bench();
    private final Grid result = new Grid();

    public RankCalc() {
    }

    public int feed(int w) {
        int codes = codesIn(w);
        if (textLength + codes > MOST_TEXT) {
            return -1;
        }
        for (int k = 0; k < codes; k++) {
            text[textLength + k] = (char) codeAt(w, k);
        }
        textLength += codes;
        return codes;
    }

    public void clear() {
        textLength = 0;
    }

    public int run() throws IllegalStateException, ArithmeticException, IllegalArgumentException,
            UnsupportedOperationException, IndexOutOfBoundsException, NoSuchElementException {
        if (!script.read(text, textLength)) {
            return -1;
        }
        Grid made = bench.evaluate(script, shelf);
        result.copyFrom(made);
        if (script.target >= 0) {
            shelf.put(script.target, made);
        }
        return result.count;
    }

    public int rank() {
        return result.axes;
    }

    public int axis(int k) {
        return k >= 0 && k < result.axes ? result.lengths[k] : -1;
    }

    public int size() {
        return result.count;
    }

    public long element(int k) {
        return k >= 0 && k < result.count ? result.cells[k] : NO_ELEMENT;
    }

    public long sum() {
        long total = 0;
        for (int k = 0; k < result.count; k++) {
            total += result.cells[k];
        }
        return total;
    }

    public int held(int k) {
        return shelf.has(k) ? shelf.grids[k].count : -1;
    }

    public boolean forget(int k) {
        return shelf.drop(k);
    }

    public int done() {
        return bench.functionsDone;
    }

    private static int codeAt(int w, int k) {
        return w >> 8 * k & 255;
    }

    private static int codesIn(int w) {
        int codes = 0;
        while (codes < 4 && codeAt(w, codes) != 0) {
            codes++;
        }
        return codes;
    }

    /** One array. It is made once and filled anew, because nothing made in a run is ever given back. */
    private static final class Grid {
        int axes = 1;
        int count = 0;
        final int[] lengths = new int[MOST_AXES];
        final int[] cells = new int[MOST_CELLS];

        void copyFrom(Grid other) {
            shapeLike(other);
            for (int k = 0; k < count; k++) {
                cells[k] = other.cells[k];
            }
        }

        void shapeLike(Grid other) {
            axes = 0;
            addAxes(other, 0, other.axes);
            count = other.count;
        }

        void addAxis(int length) {
            if (axes < MOST_AXES) {
                lengths[axes] = length;
                axes++;
            }
        }

        void addAxes(Grid other, int first, int end) {
            for (int k = first; k < end; k++) {
                addAxis(other.lengths[k]);
            }
        }

        void shapeVector(int length) {
            axes = 0;
            addAxis(length);
            settle();
        }

        /** Counts the elements that the lengths ask for, which are not known to be few enough before. */
        void settle() {
            int product = 1;
            for (int k = 0; k < axes; k++) {
                if (lengths[k] > MOST_CELLS) {
                    throw new IllegalStateException();
                }
                product *= lengths[k];
            }
            if (product > MOST_CELLS) {
                throw new IllegalStateException();
            }
            count = product;
        }

        /** The length of a row; a scalar counts as one row of one element. */
        int width() {
            return axes == 0 ? 1 : lengths[axes - 1];
        }

        int product(int first, int end) {
            int product = 1;
            for (int k = first; k < end; k++) {
                product *= lengths[k];
            }
            return product;
        }
    }

    /** The arrays of the eight names. */
    private static final class Shelf {
        final Grid[] grids = new Grid[NAMES];
        final boolean[] filled = new boolean[NAMES];

        Shelf() {
            for (int k = 0; k < NAMES; k++) {
                grids[k] = new Grid();
            }
        }

        boolean has(int k) {
            return k >= 0 && k < NAMES && filled[k];
        }

        void put(int k, Grid grid) {
            grids[k].copyFrom(grid);
            filled[k] = true;
        }

        boolean drop(int k) {
            if (!has(k)) {
                return false;
            }
            filled[k] = false;
            return true;
        }
    }

    /** A text as tokens, and these as steps: the terms, functions and brackets from left to right. */
    private static final class Script {
        static final int NAME = 0;
        static final int NUMBERS = 1;
        static final int OPEN = 2;
        static final int CLOSE = 3;
        static final int ONE = 4;
        static final int TWO = 5;

        /** The mark of a number token; no other token has a digit for its mark. */
        static final char NUMBER = '0';
        static final char NO_TOKEN = 0;
        static final int MOST_DIGITS = 9;
        static final int NO_NUMBER_OPEN = -1;
        static final String NUMBER_FUNCTIONS = "+-*%|<>=&^";
        static final String ONE_ARGUMENT = "-|*ir,tv";
        static final String TWO_ARGUMENTS = "r,p";
        static final String SINGLE_MARKS = "ABCDEFGH():+-*%|<>=&^ir,tvp/\\.@";

        final char[] marks = new char[MOST_TEXT];
        final int[] values = new int[MOST_TEXT];
        int tokens = 0;
        private int digits = NO_NUMBER_OPEN;
        private int sign = 1;

        final int[] kinds = new int[MOST_TEXT];
        final int[] starts = new int[MOST_TEXT];
        int steps = 0;
        int target = -1;
        private int depth = 0;
        private boolean termEnded = false;

        /** Whether the text is a statement; only then may the steps be used. */
        boolean read(char[] text, int length) {
            return split(text, length) && parse();
        }

        char mark(int at) {
            return at >= 0 && at < tokens ? marks[at] : NO_TOKEN;
        }

        int numbersFrom(int at) {
            int end = at;
            while (end < tokens && marks[end] == NUMBER) {
                end++;
            }
            return end - at;
        }

        private boolean split(char[] text, int length) {
            tokens = 0;
            digits = NO_NUMBER_OPEN;
            boolean good = true;
            for (int k = 0; k < length && good; k++) {
                char c = text[k];
                if (c >= '0' && c <= '9') {
                    good = takeDigit(c - '0');
                } else if (c == '_') {
                    good = digits == NO_NUMBER_OPEN;
                    openNumber(-1);
                } else {
                    good = digits != 0 && takeMark(c);
                }
            }
            return good && digits != 0;
        }

        private void openNumber(int newSign) {
            addToken(NUMBER);
            digits = 0;
            sign = newSign;
        }

        private boolean takeDigit(int digit) {
            if (digits == NO_NUMBER_OPEN) {
                openNumber(1);
            }
            if (digits == MOST_DIGITS) {
                return false;
            }
            values[tokens - 1] = values[tokens - 1] * 10 + sign * digit;
            digits++;
            return true;
        }

        private boolean takeMark(char c) {
            digits = NO_NUMBER_OPEN;
            if (c == ' ') {
                return true;
            }
            addToken(c);
            return SINGLE_MARKS.indexOf(c) >= 0;
        }

        private void addToken(char mark) {
            marks[tokens] = mark;
            values[tokens] = 0;
            tokens++;
        }

        private boolean parse() {
            boolean assigns = isName(mark(0)) && mark(1) == ':';
            target = assigns ? mark(0) - 'A' : -1;
            steps = 0;
            depth = 0;
            termEnded = false;
            int taken = 0;
            for (int at = assigns ? 2 : 0; at < tokens; at += taken) {
                taken = termEnded ? takeAfterTerm(at) : takeAtStart(at);
                if (taken < 1) {
                    return false;
                }
            }
            return termEnded && depth == 0;
        }

        /** Takes what an expression may begin with: how many tokens, 0 if it may not begin so. */
        private int takeAtStart(int at) {
            char c = mark(at);
            if (c == '(') {
                depth++;
                addStep(OPEN, at);
                return depth <= MOST_DEPTH ? 1 : 0;
            }
            if (c == NUMBER || isName(c)) {
                termEnded = true;
                addStep(c == NUMBER ? NUMBERS : NAME, at);
                return c == NUMBER ? numbersFrom(at) : 1;
            }
            addStep(ONE, at);
            return lengthOfOne(at);
        }

        /** Takes what may follow a term: how many tokens, 0 if this may not. */
        private int takeAfterTerm(int at) {
            if (mark(at) == ')') {
                depth--;
                addStep(CLOSE, at);
                return depth >= 0 ? 1 : 0;
            }
            termEnded = false;
            addStep(TWO, at);
            return lengthOfTwo(at);
        }

        private int lengthOfOne(int at) {
            char next = mark(at + 1);
            if (isNumberFunction(mark(at)) && (next == '/' || next == '\\')) {
                return 2;
            }
            return ONE_ARGUMENT.indexOf(mark(at)) >= 0 ? 1 : 0;
        }

        private int lengthOfTwo(int at) {
            char next = mark(at + 1);
            if (!isNumberFunction(mark(at))) {
                return TWO_ARGUMENTS.indexOf(mark(at)) >= 0 ? 1 : 0;
            }
            if (next == '.') {
                return isNumberFunction(mark(at + 2)) ? 3 : 0;
            }
            return next == '@' ? 2 : 1;
        }

        private void addStep(int kind, int start) {
            kinds[steps] = kind;
            starts[steps] = start;
            steps++;
        }

        private static boolean isName(char c) {
            return c >= 'A' && c <= 'H';
        }

        private static boolean isNumberFunction(char c) {
            return NUMBER_FUNCTIONS.indexOf(c) >= 0;
        }
    }

    /** Evaluates a script's steps from the last to the first: right arguments come before left ones. */
    private static final class Bench {
        static final int NONE = -1;

        /** In each bracket, and outside, one right argument waits at most; one more is being made. */
        private final Grid[] stack = new Grid[MOST_DEPTH + 2];
        private int top = -1;
        private Grid spare = new Grid();

        /** For each depth, the token of the function that waits for the term on its left. */
        private final int[] waiting = new int[MOST_DEPTH + 1];
        private int depth = 0;
        private final int[] row = new int[MOST_CELLS];
        int functionsDone = 0;

        Bench() {
            for (int k = 0; k < stack.length; k++) {
                stack[k] = new Grid();
            }
        }

        /** The array made, which is good until the next evaluation. */
        Grid evaluate(Script script, Shelf shelf) {
            functionsDone = 0;
            top = -1;
            depth = 0;
            waiting[0] = NONE;
            for (int k = script.steps - 1; k >= 0; k--) {
                int at = script.starts[k];
                switch (script.kinds[k]) {
                    case Script.NAME:
                        pushName(script.mark(at) - 'A', shelf);
                        doWaiting(script);
                        break;
                    case Script.NUMBERS:
                        pushNumbers(script, at);
                        doWaiting(script);
                        break;
                    case Script.CLOSE:
                        depth++;
                        waiting[depth] = NONE;
                        break;
                    case Script.OPEN:
                        depth--;
                        doWaiting(script);
                        break;
                    case Script.ONE:
                        doOne(script.mark(at), script.mark(at + 1));
                        break;
                    default:
                        waiting[depth] = at;
                        break;
                }
            }
            return stack[top];
        }

        private void pushName(int name, Shelf shelf) {
            if (!shelf.has(name)) {
                throw new NoSuchElementException();
            }
            top++;
            stack[top].copyFrom(shelf.grids[name]);
        }

        private void pushNumbers(Script script, int at) {
            int many = script.numbersFrom(at);
            top++;
            Grid grid = stack[top];
            grid.axes = 0;
            if (many > 1) {
                grid.addAxis(many);
            }
            grid.settle();
            for (int k = 0; k < grid.count; k++) {
                grid.cells[k] = script.values[at + k];
            }
        }

        private void doOne(char f, char next) {
            Grid right = stack[top];
            if (next == '/') {
                Functions.reduce(f, right, spare);
            } else if (next == '\\') {
                Functions.scan(f, right, spare);
            } else {
                switch (f) {
                    case 'i':
                        Functions.count(right, spare);
                        break;
                    case 'r':
                        Functions.shape(right, spare);
                        break;
                    case ',':
                        Functions.ravel(right, spare);
                        break;
                    case 't':
                        Functions.transpose(right, spare);
                        break;
                    case 'v':
                        Functions.reverse(right, spare);
                        break;
                    default:
                        Functions.eachOfOne(f, right, spare);
                        break;
                }
            }
            keepSpareAtTop();
        }

        /** Does the function to the right of the term that has just ended, if there is one. */
        private void doWaiting(Script script) {
            int at = waiting[depth];
            if (at == NONE) {
                return;
            }
            waiting[depth] = NONE;
            char f = script.mark(at);
            char next = script.mark(at + 1);
            Grid left = stack[top];
            Grid right = stack[top - 1];
            if (next == '.') {
                Functions.inner(f, script.mark(at + 2), left, right, spare, row);
            } else if (next == '@') {
                Functions.outer(f, left, right, spare);
            } else {
                switch (f) {
                    case 'r':
                        Functions.reshape(left, right, spare);
                        break;
                    case ',':
                        Functions.join(left, right, spare);
                        break;
                    case 'p':
                        Functions.pick(left, right, spare);
                        break;
                    default:
                        Functions.eachOfTwo(f, left, right, spare);
                        break;
                }
            }
            top--;
            keepSpareAtTop();
        }

        private void keepSpareAtTop() {
            Grid used = stack[top];
            stack[top] = spare;
            spare = used;
            functionsDone++;
        }
    }

    /** The functions on whole arrays; out is never one of the arguments. */
    private static final class Functions {
        static void eachOfOne(char f, Grid right, Grid out) {
            out.shapeLike(right);
            for (int k = 0; k < out.count; k++) {
                out.cells[k] = Numbers.ofOne(f, right.cells[k]);
            }
        }

        static void eachOfTwo(char f, Grid left, Grid right, Grid out) {
            if (left.axes > 0 && right.axes > 0) {
                refuseOtherShape(left, right);
            }
            out.shapeLike(left.axes == 0 ? right : left);
            int leftStep = left.axes == 0 ? 0 : 1;
            int rightStep = right.axes == 0 ? 0 : 1;
            for (int k = 0; k < out.count; k++) {
                out.cells[k] = Numbers.ofTwo(f, left.cells[k * leftStep], right.cells[k * rightStep]);
            }
        }

        private static void refuseOtherShape(Grid left, Grid right) {
            if (left.axes != right.axes) {
                throw new UnsupportedOperationException();
            }
            refuseOtherLengths(left, right, left.axes);
        }

        private static void refuseOtherLengths(Grid left, Grid right, int end) {
            for (int k = 0; k < end; k++) {
                if (left.lengths[k] != right.lengths[k]) {
                    throw new IllegalArgumentException();
                }
            }
        }

        static void reduce(char f, Grid right, Grid out) {
            out.axes = 0;
            out.addAxes(right, 0, right.axes - 1);
            // Taking away an axis of length 0 can ask for too many elements.
            out.settle();
            int width = right.width();
            for (int k = 0; k < out.count; k++) {
                out.cells[k] = Numbers.fold(f, right.cells, k * width, width);
            }
        }

        static void scan(char f, Grid right, Grid out) {
            out.shapeLike(right);
            int width = right.width();
            int column = 0;
            for (int k = 0; k < out.count; k++) {
                out.cells[k] = Numbers.fold(f, right.cells, k - column, column + 1);
                column = column + 1 < width ? column + 1 : 0;
            }
        }

        static void inner(char f, char g, Grid left, Grid right, Grid out, int[] row) {
            if (left.axes == 0 || right.axes == 0 || left.axes + right.axes > MOST_AXES + 2) {
                throw new UnsupportedOperationException();
            }
            int width = left.width();
            if (width != right.lengths[0]) {
                throw new IllegalArgumentException();
            }
            out.axes = 0;
            out.addAxes(left, 0, left.axes - 1);
            out.addAxes(right, 1, right.axes);
            out.settle();
            int columns = right.product(1, right.axes);
            int from = 0;
            int column = 0;
            for (int k = 0; k < out.count; k++) {
                for (int j = 0; j < width; j++) {
                    row[j] = Numbers.ofTwo(g, left.cells[from + j], right.cells[j * columns + column]);
                }
                out.cells[k] = Numbers.fold(f, row, 0, width);
                column++;
                if (column == columns) {
                    column = 0;
                    from += width;
                }
            }
        }

        static void outer(char f, Grid left, Grid right, Grid out) {
            if (left.axes + right.axes > MOST_AXES) {
                throw new UnsupportedOperationException();
            }
            out.axes = 0;
            out.addAxes(left, 0, left.axes);
            out.addAxes(right, 0, right.axes);
            out.settle();
            for (int k = 0; k < left.count; k++) {
                for (int j = 0; j < right.count; j++) {
                    out.cells[k * right.count + j] = Numbers.ofTwo(f, left.cells[k], right.cells[j]);
                }
            }
        }

        static void count(Grid right, Grid out) {
            if (right.axes > 1) {
                throw new UnsupportedOperationException();
            }
            if (right.count != 1) {
                throw new IllegalArgumentException();
            }
            if (right.cells[0] < 0) {
                throw new ArithmeticException();
            }
            out.shapeVector(right.cells[0]);
            for (int k = 0; k < out.count; k++) {
                out.cells[k] = k;
            }
        }

        static void shape(Grid right, Grid out) {
            out.shapeVector(right.axes);
            for (int k = 0; k < out.count; k++) {
                out.cells[k] = right.lengths[k];
            }
        }

        /** The document lists R, D, S, L here in this order, so it is kept. */
        static void reshape(Grid left, Grid right, Grid out) {
            if (left.axes > 1 || left.count > MOST_AXES) {
                throw new UnsupportedOperationException();
            }
            out.axes = 0;
            for (int k = 0; k < left.count; k++) {
                if (left.cells[k] < 0) {
                    throw new ArithmeticException();
                }
                out.addAxis(left.cells[k]);
            }
            out.settle();
            if (right.count == 0 && out.count > 0) {
                throw new IllegalArgumentException();
            }
            int from = 0;
            for (int k = 0; k < out.count; k++) {
                out.cells[k] = right.cells[from];
                from = from + 1 < right.count ? from + 1 : 0;
            }
        }

        static void ravel(Grid right, Grid out) {
            out.shapeVector(right.count);
            for (int k = 0; k < out.count; k++) {
                out.cells[k] = right.cells[k];
            }
        }

        static void join(Grid left, Grid right, Grid out) {
            if (left.axes > 0 && right.axes > 0) {
                refuseUnjoinable(left, right);
            }
            int axes = Math.max(1, Math.max(left.axes, right.axes));
            int leftWidth = left.axes == axes ? left.width() : 1;
            int rightWidth = right.axes == axes ? right.width() : 1;
            out.axes = 0;
            out.addAxes(left.axes == axes ? left : right, 0, axes - 1);
            out.addAxis(leftWidth + rightWidth);
            out.settle();
            joinRows(left, leftWidth, right, rightWidth, out);
        }

        private static void refuseUnjoinable(Grid left, Grid right) {
            if (Math.abs(left.axes - right.axes) > 1) {
                throw new UnsupportedOperationException();
            }
            refuseOtherLengths(left, right, Math.max(left.axes, right.axes) - 1);
        }

        private static void joinRows(Grid left, int leftWidth, Grid right, int rightWidth, Grid out) {
            int leftStep = left.axes == 0 ? 0 : 1;
            int rightStep = right.axes == 0 ? 0 : 1;
            int leftFrom = 0;
            int rightFrom = 0;
            int column = 0;
            for (int k = 0; k < out.count; k++) {
                if (column < leftWidth) {
                    out.cells[k] = left.cells[leftFrom];
                    leftFrom += leftStep;
                } else {
                    out.cells[k] = right.cells[rightFrom];
                    rightFrom += rightStep;
                }
                column = column + 1 < leftWidth + rightWidth ? column + 1 : 0;
            }
        }

        static void transpose(Grid right, Grid out) {
            out.axes = 0;
            for (int k = right.axes - 1; k >= 0; k--) {
                out.addAxis(right.lengths[k]);
            }
            out.count = right.count;
            // A lower rank is taken as one with a first or a middle axis of length 1.
            int first = right.axes > 1 ? right.lengths[0] : 1;
            int middle = right.axes > 2 ? right.lengths[1] : 1;
            int last = right.width();
            for (int x = 0; x < first; x++) {
                for (int y = 0; y < middle; y++) {
                    for (int z = 0; z < last; z++) {
                        out.cells[(z * middle + y) * first + x] = right.cells[(x * middle + y) * last + z];
                    }
                }
            }
        }

        static void reverse(Grid right, Grid out) {
            out.shapeLike(right);
            int width = right.width();
            int column = 0;
            for (int k = 0; k < out.count; k++) {
                out.cells[k] = right.cells[k - column + width - 1 - column];
                column = column + 1 < width ? column + 1 : 0;
            }
        }

        static void pick(Grid left, Grid right, Grid out) {
            if (right.axes == 0 || left.axes + right.axes > MOST_AXES + 1) {
                throw new UnsupportedOperationException();
            }
            out.axes = 0;
            out.addAxes(left, 0, left.axes);
            out.addAxes(right, 1, right.axes);
            out.settle();
            int part = right.product(1, right.axes);
            for (int k = 0; k < left.count; k++) {
                int index = left.cells[k];
                if (index < 0 || index >= right.lengths[0]) {
                    throw new IndexOutOfBoundsException();
                }
                for (int j = 0; j < part; j++) {
                    out.cells[k * part + j] = right.cells[index * part + j];
                }
            }
        }
    }

    /** The number functions on ints and on rows of ints. */
    private static final class Numbers {
        static int ofOne(char f, int a) {
            switch (f) {
                case '-':
                    return ofTwo('-', 0, a);
                case '|':
                    return a < 0 ? ofTwo('-', 0, a) : a;
                default:
                    return Integer.signum(a);
            }
        }

        static int ofTwo(char f, int a, int b) {
            switch (f) {
                case '+':
                    return fit((long) a + b);
                case '-':
                    return fit((long) a - b);
                case '*':
                    return fit((long) a * b);
                case '%':
                    if (b == 0 || a % b != 0) {
                        throw new ArithmeticException();
                    }
                    return fit((long) a / b);
                case '|':
                    return a == 0 ? b : Math.floorMod(b, a);
                case '<':
                    return a < b ? 1 : 0;
                case '>':
                    return a > b ? 1 : 0;
                case '=':
                    return a == b ? 1 : 0;
                case '&':
                    return Math.min(a, b);
                default:
                    return Math.max(a, b);
            }
        }

        /** What f/ makes of a row, worked out from the right. */
        static int fold(char f, int[] cells, int from, int length) {
            if (length == 0) {
                return ofNone(f);
            }
            int made = cells[from + length - 1];
            for (int k = from + length - 2; k >= from; k--) {
                made = ofTwo(f, cells[k], made);
            }
            return made;
        }

        private static int ofNone(char f) {
            if (f != '+' && f != '*') {
                throw new ArithmeticException();
            }
            return f == '+' ? 0 : 1;
        }

        private static int fit(long exact) {
            if (exact != (int) exact) {
                throw new IllegalStateException();
            }
            return (int) exact;
        }
    }
}
