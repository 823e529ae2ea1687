/** Works out expressions over arrays of numbers; ../shared/DOC.md says what each call promises. */
public final class ArrayText {
    private static final int MOST_VARIABLES = 8;
    private static final int MOST_ELEMENTS = 24;
    private static final int MOST_CHARACTERS = 40;
    private static final int MOST_DIGITS = 4;
    private static final int HIGHEST_CODE = 127;
    private static final int CHARACTERS_A_WRITE = 8;

    /** A table's shape is this many times its lines and the length of a line. */
    private static final int TABLE_STEP = 32;

    /** No element goes above this, or below its negative. */
    private static final long FARTHEST = 1000000000000L;

    /** Stands where no part, and no number, was found. */
    private static final int NONE = -1;

    /** What is read behind the text's end: no character has this code. */
    private static final char END = 0;

    private static final int CONSTANT = 1;
    private static final int NAME = 2;
    private static final int COUNTING = 3;
    private static final int BY_ELEMENT = 4;
    private static final int NEGATIVE = 5;
    private static final int JOIN = 6;
    private static final int ANEW = 7;
    private static final int TURN = 8;
    private static final int REDUCTION = 9;
    private static final int RUNNING = 10;

    /** Stand in a shape's place where there is none; no shape is below 0. */
    private static final int SHAPE_FAULT = -1;
    private static final int SIZE_FAULT = -2;

    private final char[] text;
    private int textLength;
    private final Variables variables;
    private final Tree tree;
    private final Reader reader;
    private final ShapeFinder shapeFinder;
    private final Worker worker;
    private int latestMade;
    private int goodRuns;

    public ArrayText() {
        text = new char[MOST_CHARACTERS];
        textLength = 0;
        variables = new Variables();
        tree = new Tree();
        reader = new Reader(text, tree);
        shapeFinder = new ShapeFinder(tree, variables);
        worker = new Worker(tree, variables);
        latestMade = 0;
        goodRuns = 0;
    }

    public int write(long chars) {
        int many = countCharacters(chars);
        if (many == NONE || many > MOST_CHARACTERS - textLength) {
            return -1;
        }
        for (int k = 0; k < many; k++) {
            if (textLength >= 0 && textLength < text.length) {
                text[textLength] = (char) characterCode(chars, k);
                textLength++;
            }
        }
        return many;
    }

    public int erase() {
        int had = textLength;
        textLength = 0;
        return had;
    }

    public boolean put(int v, double x) {
        if (!Variables.exists(v) || !inRange(x)) {
            return false;
        }
        variables.become(v, 0);
        variables.keep(v, 0, x);
        return true;
    }

    public boolean shape(int v, int shape) {
        if (!Variables.exists(v) || !Shapes.exists(shape)) {
            return false;
        }
        variables.become(v, shape);
        return true;
    }

    public boolean set(int v, int i, double x) {
        if (!variables.hasElement(v, i) || !inRange(x)) {
            return false;
        }
        variables.keep(v, i, x);
        return true;
    }

    public int shapeOf(int v) {
        return Variables.exists(v) ? variables.shapeHeld(v) : -1;
    }

    public int size(int v) {
        return Variables.exists(v) ? Shapes.elements(variables.shapeHeld(v)) : -1;
    }

    public double at(int v, int i) {
        return variables.hasElement(v, i) ? variables.element(v, i) : 0.0;
    }

    public int run(int v) throws IndexOutOfBoundsException, IllegalArgumentException, IllegalStateException,
            UnsupportedOperationException, ArithmeticException {
        if (!Variables.exists(v)) {
            throw new IndexOutOfBoundsException("no such variable");
        }
        int root = understand();
        if (!worker.workOutAll()) {
            throw new ArithmeticException("out of range");
        }
        int shape = tree.shapeFound(root);
        variables.become(v, shape);
        int many = Shapes.elements(shape);
        for (int i = 0; i < many; i++) {
            variables.keep(v, i, tree.element(root, i));
        }
        latestMade = tree.arraysMade(root);
        goodRuns++;
        return many;
    }

    public int look() throws IllegalArgumentException, IllegalStateException, UnsupportedOperationException {
        return tree.shapeFound(understand());
    }

    public int made() {
        return latestMade;
    }

    public int runs() {
        return goodRuns;
    }

    /** Reads the text into the tree and finds all shapes; the root, or the exception that the text earns. */
    private int understand() {
        int root = reader.readText(textLength);
        if (root == NONE) {
            throw new IllegalArgumentException("no expression");
        }
        int found = shapeFinder.findAll(root);
        if (found == SHAPE_FAULT) {
            throw new IllegalStateException("shapes that do not fit");
        }
        if (found == SIZE_FAULT) {
            throw new UnsupportedOperationException("no such size");
        }
        return root;
    }

    /** How many characters stand before the first 0, or NONE if one of them is no character of a text. */
    private static int countCharacters(long chars) {
        for (int k = 0; k < CHARACTERS_A_WRITE; k++) {
            int code = characterCode(chars, k);
            if (code == 0) {
                return k;
            }
            if (code > HIGHEST_CODE) {
                return NONE;
            }
        }
        return CHARACTERS_A_WRITE;
    }

    private static int characterCode(long chars, int k) {
        return (int) ((chars >>> (8 * k)) & 255L);
    }

    /** False for what is no number too, since no comparison holds for it. */
    private static boolean inRange(double x) {
        return x >= (double) -FARTHEST && x <= (double) FARTHEST;
    }

    /** What a shape, one int, tells of the array. */
    private static final class Shapes {
        static boolean exists(int shape) {
            if (shape < 0) {
                return false;
            }
            if (shape <= MOST_ELEMENTS) {
                return true;
            }
            return isTable(shape) && lines(shape) <= MOST_ELEMENTS && lineLength(shape) >= 1
                    && elements(shape) <= MOST_ELEMENTS;
        }

        static boolean isTable(int shape) {
            return shape >= TABLE_STEP;
        }

        /** A number alone and a row count as one line here, so that all arrays can be gone through alike. */
        static int lines(int shape) {
            return isTable(shape) ? shape / TABLE_STEP : 1;
        }

        static int lineLength(int shape) {
            if (isTable(shape)) {
                return shape % TABLE_STEP;
            }
            return shape == 0 ? 1 : shape;
        }

        static int elements(int shape) {
            return lines(shape) * lineLength(shape);
        }

        static int ofTable(int lines, int lineLength) {
            return TABLE_STEP * lines + lineLength;
        }
    }

    /** The arrays that the names a to h stand for. */
    private static final class Variables {
        private final int[] shapes = new int[MOST_VARIABLES];
        private final double[] elements = new double[MOST_VARIABLES * MOST_ELEMENTS];

        static boolean exists(int v) {
            return v >= 0 && v < MOST_VARIABLES;
        }

        boolean hasElement(int v, int i) {
            return exists(v) && i >= 0 && i < Shapes.elements(shapes[v]);
        }

        private static boolean hasRoom(int v, int i) {
            return exists(v) && i >= 0 && i < MOST_ELEMENTS;
        }

        int shapeHeld(int v) {
            return exists(v) ? shapes[v] : 0;
        }

        double element(int v, int i) {
            return hasRoom(v, i) ? elements[v * MOST_ELEMENTS + i] : 0.0;
        }

        /** All elements become 0. */
        void become(int v, int shape) {
            if (!exists(v)) {
                return;
            }
            shapes[v] = shape;
            for (int i = 0; i < MOST_ELEMENTS; i++) {
                elements[v * MOST_ELEMENTS + i] = 0.0;
            }
        }

        void keep(int v, int i, double x) {
            if (hasRoom(v, i)) {
                elements[v * MOST_ELEMENTS + i] = x;
            }
        }
    }

    /**
     * The expression that the text is, as nodes: each stands behind its parts, so that one pass from the first node
     * to the last meets every part before what is made of it. The same rows serve every call.
     */
    private static final class Tree {
        /** A node takes at least one character of its own. */
        private static final int MOST_NODES = MOST_CHARACTERS;

        private int nodes = 0;
        private final int[] kinds = new int[MOST_NODES];
        private final int[] details = new int[MOST_NODES];
        private final int[] lefts = new int[MOST_NODES];
        private final int[] rights = new int[MOST_NODES];
        private final int[] shapes = new int[MOST_NODES];
        private final double[] elements = new double[MOST_NODES * MOST_ELEMENTS];

        void clear() {
            nodes = 0;
        }

        int nodeCount() {
            return nodes;
        }

        /** The new node, or NONE if there is no room. */
        int add(int kind, int detail, int left, int right) {
            if (nodes < 0 || nodes >= MOST_NODES) {
                return NONE;
            }
            int node = nodes;
            kinds[node] = kind;
            details[node] = detail;
            lefts[node] = left;
            rights[node] = right;
            shapes[node] = 0;
            nodes++;
            return node;
        }

        boolean exists(int node) {
            return node >= 0 && node < nodes && node < MOST_NODES;
        }

        int kind(int node) {
            return exists(node) ? kinds[node] : 0;
        }

        /** The sign, the number or the variable that belongs to the node. */
        int detail(int node) {
            return exists(node) ? details[node] : 0;
        }

        int left(int node) {
            return exists(node) ? lefts[node] : NONE;
        }

        int right(int node) {
            return exists(node) ? rights[node] : NONE;
        }

        int shapeFound(int node) {
            return exists(node) ? shapes[node] : 0;
        }

        void keepShape(int node, int shape) {
            if (exists(node)) {
                shapes[node] = shape;
            }
        }

        double element(int node, int i) {
            return exists(node) && i >= 0 && i < MOST_ELEMENTS ? elements[node * MOST_ELEMENTS + i] : 0.0;
        }

        void keep(int node, int i, double x) {
            if (exists(node) && i >= 0 && i < MOST_ELEMENTS) {
                elements[node * MOST_ELEMENTS + i] = x;
            }
        }

        int arraysMade(int root) {
            int many = makesArray(root) ? 0 : 1;
            for (int node = 0; node < nodes; node++) {
                if (makesArray(node)) {
                    many++;
                }
            }
            return many;
        }

        private boolean makesArray(int node) {
            int kind = kind(node);
            return kind == JOIN || kind == TURN || kind == REDUCTION || kind == RUNNING;
        }
    }

    /** Reads the text into the tree; parentheses leave no node behind. */
    private static final class Reader {
        private final char[] text;
        private final Tree tree;
        private int length = 0;
        private int place = 0;

        Reader(char[] text, Tree tree) {
            this.text = text;
            this.tree = tree;
        }

        /** The root of the whole text, or NONE if it is no expression. */
        int readText(int textLength) {
            tree.clear();
            length = textLength;
            place = 0;
            int root = readExpression(0);
            return place == length ? root : NONE;
        }

        /** Each level has taken a character before it goes deeper, so this depth refuses no expression. */
        private int readExpression(int depth) {
            if (depth >= MOST_CHARACTERS) {
                return NONE;
            }
            if (isFront(here())) {
                return readFront(depth);
            }
            int left = readPart(depth);
            char sign = here();
            if (left == NONE || !isSign(sign)) {
                return left;
            }
            place++;
            int right = readExpression(depth + 1);
            return right == NONE ? NONE : tree.add(kindOfSign(sign), sign, left, right);
        }

        private int readFront(int depth) {
            char front = here();
            place++;
            char sign = END;
            if (front == '/' || front == '\\') {
                sign = here();
                if (!isFoldingSign(sign)) {
                    return NONE;
                }
                place++;
            }
            int right = readExpression(depth + 1);
            return right == NONE ? NONE : tree.add(kindOfFront(front), sign, NONE, right);
        }

        private int readPart(int depth) {
            char c = here();
            if (c >= 'a' && c <= 'h') {
                place++;
                return tree.add(NAME, c - 'a', NONE, NONE);
            }
            if (c == 'i') {
                place++;
                int number = readNumber();
                return number == NONE ? NONE : tree.add(COUNTING, number, NONE, NONE);
            }
            if (c == '(') {
                return readInParentheses(depth);
            }
            return isDigit(c) ? readConstant() : NONE;
        }

        private int readInParentheses(int depth) {
            place++;
            int inner = readExpression(depth + 1);
            if (inner == NONE || here() != ')') {
                return NONE;
            }
            place++;
            return inner;
        }

        private int readConstant() {
            int node = tree.add(CONSTANT, 0, NONE, NONE);
            for (int i = 0; i < MOST_ELEMENTS; i++) {
                int number = readNumber();
                if (number == NONE) {
                    return NONE;
                }
                tree.keep(node, i, number);
                if (here() != ' ') {
                    tree.keepShape(node, i == 0 ? 0 : i + 1);
                    return node;
                }
                place++;
            }
            return NONE;
        }

        /** A number of 1 to 4 digits, or NONE. */
        private int readNumber() {
            int number = 0;
            int digits = 0;
            while (digits < MOST_DIGITS && isDigit(here())) {
                number = 10 * number + (here() - '0');
                digits++;
                place++;
            }
            return digits == 0 || isDigit(here()) ? NONE : number;
        }

        private char here() {
            return place >= 0 && place < length && place < text.length ? text[place] : END;
        }

        private static boolean isDigit(char c) {
            return c >= '0' && c <= '9';
        }

        private static boolean isFront(char c) {
            return c == '-' || c == '~' || c == '/' || c == '\\';
        }

        private static boolean isFoldingSign(char c) {
            return c == '+' || c == '*' || c == '&' || c == '|';
        }

        private static boolean isSign(char c) {
            return isFoldingSign(c) || c == '-' || c == '<' || c == '>' || c == '=' || c == ',' || c == '#';
        }

        private static int kindOfSign(char sign) {
            switch (sign) {
                case ',':
                    return JOIN;
                case '#':
                    return ANEW;
                default:
                    return BY_ELEMENT;
            }
        }

        private static int kindOfFront(char front) {
            switch (front) {
                case '-':
                    return NEGATIVE;
                case '~':
                    return TURN;
                case '/':
                    return REDUCTION;
                default:
                    return RUNNING;
            }
        }
    }

    /** Finds the shape of every node, or the fault that stands in its place. */
    private static final class ShapeFinder {
        private final Tree tree;
        private final Variables variables;

        ShapeFinder(Tree tree, Variables variables) {
            this.tree = tree;
            this.variables = variables;
        }

        /**
         * The root's shape, or the fault that is found first: a part's comes before the node's own, and the right
         * part's before the left one's.
         */
        int findAll(int root) {
            int many = tree.nodeCount();
            for (int node = 0; node < many; node++) {
                int left = tree.shapeFound(tree.left(node));
                int right = tree.shapeFound(tree.right(node));
                if (right < 0) {
                    tree.keepShape(node, right);
                } else if (left < 0) {
                    tree.keepShape(node, left);
                } else {
                    tree.keepShape(node, ownShape(node, left, right));
                }
            }
            return tree.shapeFound(root);
        }

        private int ownShape(int node, int left, int right) {
            switch (tree.kind(node)) {
                case CONSTANT:
                    return tree.shapeFound(node);
                case NAME:
                    return variables.shapeHeld(tree.detail(node));
                case COUNTING:
                    return rowOf(tree.detail(node));
                case BY_ELEMENT:
                    return paired(left, right);
                case JOIN:
                    return joined(left, right);
                case ANEW:
                    return shapedAnew(node, left, right);
                case TURN:
                    return turned(right);
                case REDUCTION:
                    return reduced(right);
                default:
                    return right;
            }
        }

        private static int rowOf(int elements) {
            return elements < 1 || elements > MOST_ELEMENTS ? SIZE_FAULT : elements;
        }

        private static int paired(int left, int right) {
            if (left == right || right == 0) {
                return left;
            }
            return left == 0 ? right : SHAPE_FAULT;
        }

        private static int joined(int left, int right) {
            if (Shapes.isTable(left) || Shapes.isTable(right)) {
                return SHAPE_FAULT;
            }
            return rowOf(Shapes.elements(left) + Shapes.elements(right));
        }

        private int shapedAnew(int node, int left, int right) {
            int measure = tree.left(node);
            int numbers = Shapes.elements(left);
            if (tree.kind(measure) != CONSTANT || numbers > 2) {
                return SHAPE_FAULT;
            }
            boolean isTable = numbers == 2;
            int first = (int) tree.element(measure, 0);
            int second = isTable ? (int) tree.element(measure, 1) : 1;
            int elements = first * second;
            if (elements < 1 || elements > MOST_ELEMENTS) {
                return SIZE_FAULT;
            }
            if (elements < Shapes.elements(right)) {
                return SHAPE_FAULT;
            }
            return isTable ? Shapes.ofTable(first, second) : first;
        }

        private static int turned(int shape) {
            return Shapes.isTable(shape) ? Shapes.ofTable(Shapes.lineLength(shape), Shapes.lines(shape)) : shape;
        }

        private static int reduced(int shape) {
            return Shapes.isTable(shape) ? Shapes.lines(shape) : 0;
        }
    }

    /** Works out the elements of every node, once all shapes are found. */
    private static final class Worker {
        private final Tree tree;
        private final Variables variables;

        Worker(Tree tree, Variables variables) {
            this.tree = tree;
            this.variables = variables;
        }

        /** False if an element, or a result on the way to one, is out of range. */
        boolean workOutAll() {
            int many = tree.nodeCount();
            for (int node = 0; node < many; node++) {
                if (!workOut(node)) {
                    return false;
                }
            }
            return true;
        }

        private boolean workOut(int node) {
            switch (tree.kind(node)) {
                case NAME:
                    return takeVariable(node);
                case COUNTING:
                    return countUp(node);
                case BY_ELEMENT:
                    return combine(node);
                case NEGATIVE:
                    return negate(node);
                case JOIN:
                    return join(node);
                case ANEW:
                    return fillAnew(node);
                case TURN:
                    return turn(node);
                case REDUCTION:
                    return reduceLines(node);
                case RUNNING:
                    return runLines(node);
                default:
                    return true;
            }
        }

        private boolean takeVariable(int node) {
            int many = elements(node);
            for (int i = 0; i < many; i++) {
                tree.keep(node, i, variables.element(tree.detail(node), i));
            }
            return true;
        }

        private boolean countUp(int node) {
            int many = elements(node);
            for (int i = 0; i < many; i++) {
                tree.keep(node, i, i);
            }
            return true;
        }

        private boolean combine(int node) {
            int left = tree.left(node);
            int right = tree.right(node);
            int leftStep = tree.shapeFound(left) == 0 ? 0 : 1;
            int rightStep = tree.shapeFound(right) == 0 ? 0 : 1;
            int many = elements(node);
            for (int i = 0; i < many; i++) {
                double x = bySign(tree.detail(node), tree.element(left, i * leftStep),
                        tree.element(right, i * rightStep));
                if (!inRange(x)) {
                    return false;
                }
                tree.keep(node, i, x);
            }
            return true;
        }

        private boolean negate(int node) {
            int many = elements(node);
            for (int i = 0; i < many; i++) {
                tree.keep(node, i, -tree.element(tree.right(node), i));
            }
            return true;
        }

        private boolean join(int node) {
            int leftMany = elements(tree.left(node));
            int many = elements(node);
            for (int i = 0; i < many; i++) {
                tree.keep(node, i, i < leftMany ? tree.element(tree.left(node), i)
                        : tree.element(tree.right(node), i - leftMany));
            }
            return true;
        }

        private boolean fillAnew(int node) {
            int many = elements(node);
            int rightMany = elements(tree.right(node));
            int from = 0;
            for (int i = 0; i < many; i++) {
                tree.keep(node, i, tree.element(tree.right(node), from));
                from = from + 1 < rightMany ? from + 1 : 0;
            }
            return true;
        }

        private boolean turn(int node) {
            int right = tree.right(node);
            int lines = Shapes.lines(tree.shapeFound(right));
            int length = Shapes.lineLength(tree.shapeFound(right));
            for (int i = 0; i < lines; i++) {
                for (int j = 0; j < length; j++) {
                    tree.keep(node, j * lines + i, tree.element(right, i * length + j));
                }
            }
            return true;
        }

        private boolean reduceLines(int node) {
            if (!runLines(node)) {
                return false;
            }
            int lines = Shapes.lines(tree.shapeFound(tree.right(node)));
            int length = Shapes.lineLength(tree.shapeFound(tree.right(node)));
            for (int i = 0; i < lines; i++) {
                // No later line's last element is overwritten: line i ends at or behind element i.
                tree.keep(node, i, tree.element(node, (i + 1) * length - 1));
            }
            return true;
        }

        /** Goes by the shape of the right part, since a reduction's own shape tells nothing of the lines. */
        private boolean runLines(int node) {
            int right = tree.right(node);
            int lines = Shapes.lines(tree.shapeFound(right));
            int length = Shapes.lineLength(tree.shapeFound(right));
            for (int i = 0; i < lines; i++) {
                double soFar = tree.element(right, i * length);
                tree.keep(node, i * length, soFar);
                for (int j = 1; j < length; j++) {
                    soFar = bySign(tree.detail(node), soFar, tree.element(right, i * length + j));
                    if (!inRange(soFar)) {
                        return false;
                    }
                    tree.keep(node, i * length + j, soFar);
                }
            }
            return true;
        }

        private int elements(int node) {
            return Shapes.elements(tree.shapeFound(node));
        }

        private static double bySign(int sign, double x, double y) {
            switch (sign) {
                case '+':
                    return x + y;
                case '-':
                    return x - y;
                case '*':
                    return x * y;
                case '<':
                    return x < y ? 1.0 : 0.0;
                case '>':
                    return x > y ? 1.0 : 0.0;
                case '=':
                    return x == y ? 1.0 : 0.0;
                case '&':
                    return x <= y ? x : y;
                default:
                    return x >= y ? x : y;
            }
        }
    }
}
