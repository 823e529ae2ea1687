/** The edges that promises 1 to 9 name: a new object, write, erase, put, shape, set, shapeOf, size and at. */
public final class CallsEdgesTest {
    private static final Check CHECK = new Check();
    private static final double MOST = 1000000000000.0;
    private static final double[] TAKEN = {0, -0.5, 1, MOST, -MOST, Math.nextDown(MOST), -Math.nextDown(MOST),
        Double.MIN_VALUE, -Double.MIN_VALUE};
    private static final double[] REFUSED = {Math.nextUp(MOST), -Math.nextUp(MOST), MOST + 1, -MOST - 1,
        Double.MAX_VALUE, -Double.MAX_VALUE, Double.POSITIVE_INFINITY, Double.NEGATIVE_INFINITY, Double.NaN};
    private static final int[] NO_VARIABLES = {-1, 8, -2, 9, Integer.MIN_VALUE, Integer.MAX_VALUE};

    public static void main(String[] args) {
        newObject();
        writeUpToEight();
        writeFromTheLowest();
        writeEndedByZero();
        writeAbove127();
        writeMoreThan40();
        writeRefusedChangesNothing();
        erase();
        putTaken();
        putRefused();
        shapeTaken();
        shapeRefused();
        setTaken();
        setRefused();
        setHasNoElement();
        shapeOf();
        size();
        at();
        lastCalls();
        CHECK.end();
    }

    private static void newObject() {
        CHECK.says("All variables hold the number 0; the text is empty; no run.");
        ArrayText x = new ArrayText();
        for (int v = 0; v < 8; v++) {
            CHECK.due("shapeOf(" + v + ")", x.shapeOf(v), 0);
            CHECK.due("size(" + v + ")", x.size(v), 1);
            CHECK.due("at(" + v + ", 0)", x.at(v, 0), 0.0);
        }
        CHECK.due("made()", x.made(), 0);
        CHECK.due("runs()", x.runs(), 0);
        CHECK.due("look()", Check.look(x), Check.TEXT);
        CHECK.due("run(0)", Check.run(x, 0), Check.TEXT);
        CHECK.due("erase()", x.erase(), 0);
        CHECK.due("runs()", x.runs(), 0);
        Check.become(x, "a,b,c,d,e,f,g,h");
        CHECK.due("run(0)", Check.run(x, 0), "8");
        CHECK.due("variable 0", Check.array(x, 0), "8: 0 0 0 0 0 0 0 0");
        CHECK.due("state of the next object", Check.state(new ArrayText()),
                "0: 0; ".repeat(8) + "made 0, runs 0");
    }

    private static void writeUpToEight() {
        CHECK.says("Up to eight characters are put behind the text");
        for (int many = 0; many <= 8; many++) {
            ArrayText x = new ArrayText();
            x.write('1');
            CHECK.due("write of " + many, x.write(Check.packed("+a+b+c+d".substring(0, many))), many);
            CHECK.due("look() is no expression", Check.look(x).equals(Check.TEXT), many % 2 == 1);
            CHECK.due("erase()", x.erase(), 1 + many);
        }
    }

    private static void writeFromTheLowest() {
        CHECK.says("taken from the lowest 8 bits of chars on");
        ArrayText x = new ArrayText();
        CHECK.due("write(0x3837362D)", x.write(0x3837362D), 4);
        CHECK.due("write(0x3332312A3635342B)", x.write(0x3332312A3635342BL), 8);
        CHECK.due("run(0)", Check.run(x, 0), "1");
        CHECK.due("at(0, 0) of -678+456*123", x.at(0, 0), -(678.0 + 456.0 * 123.0));
    }

    private static void writeEndedByZero() {
        CHECK.says("a value of 0 ends them: how many there were.");
        for (int zero = 0; zero < 8; zero++) {
            long chars = 0x3131313131313131L & ~(255L << (8 * zero));
            ArrayText x = new ArrayText();
            CHECK.due("write with 0 at " + zero, x.write(chars), zero);
            CHECK.due("erase()", x.erase(), zero);
            long behind = zero == 7 ? 0 : -1L << (8 * (zero + 1));
            CHECK.due("write with 0 at " + zero + " and 255 behind it", x.write(chars | behind), zero);
            CHECK.due("erase()", x.erase(), zero);
        }
        CHECK.due("write(0)", new ArrayText().write(0), 0);
        CHECK.due("write(Long.MIN_VALUE)", new ArrayText().write(Long.MIN_VALUE), 0);
    }

    private static void writeAbove127() {
        CHECK.says("-1 refused (nothing changes): one of them is above 127");
        for (int place = 0; place < 8; place++) {
            long others = 0x3131313131313131L & ~(255L << (8 * place));
            for (int code : new int[] {1, 127, 128, 129, 255}) {
                ArrayText x = new ArrayText();
                x.write('5');
                long chars = others | (long) code << (8 * place);
                CHECK.due("write with " + code + " at " + place, x.write(chars), code <= 127 ? 8 : -1);
                CHECK.due("erase() then", x.erase(), code <= 127 ? 9 : 1);
            }
        }
        CHECK.due("write(-1)", new ArrayText().write(-1), -1);
        CHECK.due("write(Long.MAX_VALUE)", new ArrayText().write(Long.MAX_VALUE), -1);
        CHECK.due("write of eight times 127", new ArrayText().write(0x7F7F7F7F7F7F7F7FL), 8);
    }

    private static void writeMoreThan40() {
        CHECK.says("or the text would have more than 40 characters");
        for (int before = 0; before <= 40; before++) {
            for (int many = 0; many <= 8; many++) {
                ArrayText x = new ArrayText();
                Check.become(x, "1".repeat(before));
                boolean taken = before + many <= 40;
                CHECK.due("write of " + many + " behind " + before, x.write(Check.packed("1".repeat(many))),
                        taken ? many : -1);
                CHECK.due("erase() then", x.erase(), taken ? before + many : before);
            }
        }
    }

    private static void writeRefusedChangesNothing() {
        CHECK.says("-1 refused (nothing changes)");
        ArrayText x = Check.filled();
        String before = Check.state(x);
        Check.become(x, "0+".repeat(17) + "98");
        CHECK.due("write of five behind 36", x.write(Check.packed("+1+1+")), -1);
        CHECK.due("write with 128 at the end", x.write(0x803131L), -1);
        CHECK.due("state then", Check.state(x), before);
        CHECK.due("write of four behind 36", x.write(Check.packed("76+1")), 4);
        CHECK.due("write of one behind 40", x.write('1'), -1);
        CHECK.due("write of 128 behind 40", x.write(128), -1);
        CHECK.due("write of none behind 40", x.write(0), 0);
        CHECK.due("run(7)", Check.run(x, 7), "1");
        CHECK.due("at(7, 0)", x.at(7, 0), 9877.0);
        CHECK.due("erase()", x.erase(), 40);
    }

    private static void erase() {
        CHECK.says("The text becomes empty: how many characters it had.");
        for (int many = 0; many <= 40; many++) {
            ArrayText x = new ArrayText();
            Check.become(x, "2".repeat(many));
            CHECK.due("erase() of " + many, x.erase(), many);
            CHECK.due("erase() again", x.erase(), 0);
            CHECK.due("look() then", Check.look(x), Check.TEXT);
            CHECK.due("write of three then", x.write(Check.packed("3,4")), 3);
            CHECK.due("run(0) then", Check.run(x, 0), "2");
            CHECK.due("variable 0 then", Check.array(x, 0), "2: 3 4");
        }
        ArrayText x = Check.filled();
        String before = Check.state(x);
        x.write('a');
        x.erase();
        CHECK.due("state after erase()", Check.state(x), before);
    }

    private static void putTaken() {
        CHECK.says("Variable v becomes a number alone: true");
        for (int v = 0; v < 8; v++) {
            for (double element : TAKEN) {
                ArrayText x = Check.filled();
                CHECK.due("put(" + v + ", " + element + ")", x.put(v, element), true);
                CHECK.due("shapeOf(" + v + ")", x.shapeOf(v), 0);
                CHECK.due("size(" + v + ")", x.size(v), 1);
                CHECK.due("at(" + v + ", 0)", x.at(v, 0), element);
                CHECK.due("at(" + v + ", 1)", x.at(v, 1), 0.0);
                CHECK.due("the others", others(x, v), others(Check.filled(), v));
            }
        }
    }

    /** All variables but v. */
    private static String others(ArrayText x, int v) {
        StringBuilder told = new StringBuilder();
        for (int w = 0; w < 8; w++) {
            told.append(w == v ? "" : Check.array(x, w));
        }
        return told.toString();
    }

    private static void putRefused() {
        CHECK.says("false (nothing changes) if v is not 0 .. 7, or x is above 1000000000000 or below -1000000000000,"
                + " or no number.");
        String before = Check.state(Check.filled());
        for (int v : NO_VARIABLES) {
            ArrayText x = Check.filled();
            CHECK.due("put(" + v + ", 1)", x.put(v, 1), false);
            CHECK.due("state then", Check.state(x), before);
        }
        for (double element : REFUSED) {
            for (int v = 0; v < 8; v++) {
                ArrayText x = Check.filled();
                CHECK.due("put(" + v + ", " + element + ")", x.put(v, element), false);
                CHECK.due("state then", Check.state(x), before);
            }
        }
    }

    private static void shapeTaken() {
        CHECK.says("Variable v becomes an array of zeros with this shape, a number alone for 0: true");
        for (int v = 0; v < 8; v++) {
            for (int shape : new int[] {0, 1, 2, v + 1, 24, 33, 56, 67, 769}) {
                ArrayText x = Check.filled();
                CHECK.due("shape(" + v + ", " + shape + ")", x.shape(v, shape), true);
                int many = shape == 0 ? 1 : shape < 32 ? shape : shape / 32 * (shape % 32);
                CHECK.due("variable " + v, Check.array(x, v), shape + ":" + " 0".repeat(many));
                CHECK.due("the others", others(x, v), others(Check.filled(), v));
            }
        }
        ArrayText x = new ArrayText();
        Check.fill(x, 2, 24, 1, 2, 3, 4, 5, 6, 7, 8, 9, 10, 11, 12, 13, 14, 15, 16, 17, 18, 19, 20, 21, 22, 23, 24);
        x.shape(2, 3);
        x.shape(2, 24);
        CHECK.due("variable 2, made short and long again", Check.array(x, 2), "24:" + " 0".repeat(24));
    }

    private static void shapeRefused() {
        CHECK.says("false (nothing changes) if v is not 0 .. 7 or there is no such shape.");
        String before = Check.state(Check.filled());
        for (int v : NO_VARIABLES) {
            ArrayText x = Check.filled();
            CHECK.due("shape(" + v + ", 1)", x.shape(v, 1), false);
            CHECK.due("state then", Check.state(x), before);
        }
        for (int shape : new int[] {-1, 25, 31, 32, 57, 63, 64, 77, 165, 770, 801, Integer.MIN_VALUE,
            Integer.MAX_VALUE}) {
            for (int v = 0; v < 8; v++) {
                ArrayText x = Check.filled();
                CHECK.due("shape(" + v + ", " + shape + ")", x.shape(v, shape), false);
                CHECK.due("state then", Check.state(x), before);
            }
        }
    }

    private static void setTaken() {
        CHECK.says("Element i of variable v becomes x: true");
        for (double element : TAKEN) {
            for (int i = 0; i < 3; i++) {
                ArrayText x = Check.filled();
                CHECK.due("set(2, " + i + ", " + element + ")", x.set(2, i, element), true);
                for (int k = 0; k < 3; k++) {
                    CHECK.due("at(2, " + k + ")", x.at(2, k), k == i ? element : 20.5 + k);
                }
                CHECK.due("shapeOf(2)", x.shapeOf(2), 3);
                CHECK.due("the others", others(x, 2), others(Check.filled(), 2));
            }
        }
    }

    private static void setRefused() {
        CHECK.says("false (nothing changes) if v is not 0 .. 7, it has no element i, or x is above 1000000000000 or"
                + " below -1000000000000, or no number.");
        String before = Check.state(Check.filled());
        for (int v : NO_VARIABLES) {
            ArrayText x = Check.filled();
            CHECK.due("set(" + v + ", 0, 1)", x.set(v, 0, 1), false);
            CHECK.due("state then", Check.state(x), before);
        }
        for (double element : REFUSED) {
            for (int i = 0; i < 3; i++) {
                ArrayText x = Check.filled();
                CHECK.due("set(2, " + i + ", " + element + ")", x.set(2, i, element), false);
                CHECK.due("state then", Check.state(x), before);
            }
        }
    }

    private static void setHasNoElement() {
        CHECK.says("it has no element i");
        for (int v = 0; v < 8; v++) {
            for (int i : new int[] {-1, v + 1, v + 2, 24, 25, Integer.MIN_VALUE, Integer.MAX_VALUE}) {
                ArrayText x = Check.filled();
                String before = Check.state(x);
                CHECK.due("set(" + v + ", " + i + ", 1)", x.set(v, i, 1), false);
                CHECK.due("state then", Check.state(x), before);
            }
        }
        ArrayText x = new ArrayText();
        x.shape(1, 67);
        CHECK.due("set(1, 5, 9) of 2 lines of 3", x.set(1, 5, 9), true);
        CHECK.due("set(1, 6, 9) of 2 lines of 3", x.set(1, 6, 9), false);
        x.shape(1, 24);
        CHECK.due("at(1, 6) of what was refused", x.at(1, 6), 0.0);
    }

    private static void shapeOf() {
        CHECK.says("The shape of variable v; -1 if v is not 0 .. 7.");
        ArrayText x = Check.filled();
        for (int v = 0; v < 8; v++) {
            CHECK.due("shapeOf(" + v + ")", x.shapeOf(v), v + 1);
        }
        for (int v : NO_VARIABLES) {
            CHECK.due("shapeOf(" + v + ")", x.shapeOf(v), -1);
        }
    }

    private static void size() {
        CHECK.says("How many elements variable v has; -1 if v is not 0 .. 7.");
        ArrayText x = new ArrayText();
        int[] shapes = {0, 1, 24, 33, 56, 769, 67, 134};
        int[] sizes = {1, 1, 24, 1, 24, 24, 6, 24};
        for (int v = 0; v < 8; v++) {
            x.shape(v, shapes[v]);
            CHECK.due("size(" + v + ") with the shape " + shapes[v], x.size(v), sizes[v]);
        }
        for (int v : NO_VARIABLES) {
            CHECK.due("size(" + v + ")", x.size(v), -1);
        }
    }

    private static void at() {
        CHECK.says("Element i of variable v; 0 if v is not 0 .. 7 or it has no element i.");
        ArrayText x = Check.filled();
        for (int v = 0; v < 8; v++) {
            CHECK.due("at(" + v + ", 0)", x.at(v, 0), 10 * v + 0.5);
            CHECK.due("at(" + v + ", " + v + ")", x.at(v, v), 11 * v + 0.5);
            for (int i : new int[] {-1, v + 1, 23, 24, 25, Integer.MIN_VALUE, Integer.MAX_VALUE}) {
                CHECK.due("at(" + v + ", " + i + ")", x.at(v, i), 0.0);
            }
        }
        for (int v : NO_VARIABLES) {
            CHECK.due("at(" + v + ", 0)", x.at(v, 0), 0.0);
            CHECK.due("at(" + v + ", -1)", x.at(v, -1), 0.0);
        }
        x.shape(0, 24);
        x.set(0, 23, 4);
        x.shape(1, 67);
        x.set(1, 5, 3);
        CHECK.due("at(0, 23)", x.at(0, 23), 4.0);
        CHECK.due("at(0, 24)", x.at(0, 24), 0.0);
        CHECK.due("at(1, 5)", x.at(1, 5), 3.0);
        CHECK.due("at(1, 6)", x.at(1, 6), 0.0);
    }

    private static void lastCalls() {
        CHECK.says("An object is used for at most 512 calls after it has been made");
        ArrayText x = new ArrayText();
        x.write(Check.packed("a+1"));
        for (int call = 2; call <= 510; call++) {
            Check.run(x, 0);
        }
        CHECK.due("call 511, runs()", x.runs(), 509);
        CHECK.due("call 512, at(0, 0)", x.at(0, 0), 509.0);
        x = new ArrayText();
        x.write(Check.packed("a+i0"));
        for (int call = 2; call <= 511; call++) {
            Check.run(x, 0);
        }
        CHECK.due("call 512, run(0)", Check.run(x, 0), Check.SIZE);
    }
}
