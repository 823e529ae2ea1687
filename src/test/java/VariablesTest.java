/** Promises 4 to 9: put, shape, set, shapeOf, size and at. */
public final class VariablesTest {
    private static final Check CHECK = new Check();
    private static final double MOST = 1e12;
    private static final int[] NO_VARIABLES = {-1, 8, 9, 100, -8, Integer.MAX_VALUE, Integer.MIN_VALUE};
    private static final double[] NO_ELEMENTS = {Math.nextUp(MOST), -Math.nextUp(MOST), 1e13, -1e300,
        Double.POSITIVE_INFINITY, Double.NEGATIVE_INFINITY, Double.NaN};

    public static void main(String[] args) {
        putMakesANumberAlone();
        putRefuses();
        shapeMakesZeros();
        everyShape();
        shapeRefuses();
        setChangesOneElement();
        setRefuses();
        outsideAnswers();
        CHECK.end();
    }

    /** An object with variable v holding v + 1 elements, so that none is like another. */
    private static ArrayText filled() {
        ArrayText x = new ArrayText();
        for (int v = 0; v < 8; v++) {
            x.shape(v, v + 1);
            for (int i = 0; i <= v; i++) {
                x.set(v, i, 10 * v + i + 0.5);
            }
        }
        return x;
    }

    private static void putMakesANumberAlone() {
        ArrayText x = filled();
        CHECK.due("put(7, 2.25)", x.put(7, 2.25), true);
        CHECK.due("variable 7", Check.array(x, 7), "0: 2.25");
        CHECK.due("size(7)", x.size(7), 1);
        CHECK.due("at(7, 1)", x.at(7, 1), 0.0);
        CHECK.due("variable 6", Check.array(x, 6), "7: 60.5 61.5 62.5 63.5 64.5 65.5 66.5");
        CHECK.due("put(0, most)", x.put(0, MOST), true);
        CHECK.due("at(0, 0)", x.at(0, 0), MOST);
        CHECK.due("put(0, -most)", x.put(0, -MOST), true);
        CHECK.due("at(0, 0)", x.at(0, 0), -MOST);
        CHECK.due("put(0, Double.MIN_VALUE)", x.put(0, Double.MIN_VALUE), true);
        CHECK.due("at(0, 0)", x.at(0, 0), Double.MIN_VALUE);
        x.shape(7, 3);
        CHECK.due("variable 7 after put and shape", Check.array(x, 7), "3: 0 0 0");
    }

    private static void putRefuses() {
        ArrayText x = filled();
        String before = Check.state(x);
        for (int v : NO_VARIABLES) {
            CHECK.due("put(" + v + ", 1)", x.put(v, 1), false);
        }
        for (double element : NO_ELEMENTS) {
            CHECK.due("put(3, " + element + ")", x.put(3, element), false);
        }
        CHECK.due("state after what put refused", Check.state(x), before);
    }

    private static void shapeMakesZeros() {
        ArrayText x = filled();
        CHECK.due("shape(3, 0)", x.shape(3, 0), true);
        CHECK.due("variable 3", Check.array(x, 3), "0: 0");
        CHECK.due("shape(4, 66)", x.shape(4, 66), true);
        CHECK.due("variable 4", Check.array(x, 4), "66: 0 0 0 0");
        CHECK.due("shape(5, 6), the shape that it has", x.shape(5, 6), true);
        CHECK.due("variable 5", Check.array(x, 5), "6: 0 0 0 0 0 0");
        CHECK.due("variable 2", Check.array(x, 2), "3: 20.5 21.5 22.5");
        CHECK.due("variable 6", Check.array(x, 6), "7: 60.5 61.5 62.5 63.5 64.5 65.5 66.5");
    }

    private static int elementsOf(int shape) {
        if (shape >= 0 && shape <= 24) {
            return shape == 0 ? 1 : shape;
        }
        for (int r = 1; r <= 24; r++) {
            for (int c = 1; c <= 24; c++) {
                if (r * c <= 24 && shape == 32 * r + c) {
                    return r * c;
                }
            }
        }
        return -1;
    }

    private static void everyShape() {
        for (int shape = -40; shape <= 1000; shape++) {
            ArrayText x = new ArrayText();
            x.put(1, 8);
            int elements = elementsOf(shape);
            CHECK.due("shape(1, " + shape + ")", x.shape(1, shape), elements >= 0);
            CHECK.due("shapeOf(1) then", x.shapeOf(1), elements >= 0 ? shape : 0);
            CHECK.due("size(1) then", x.size(1), elements >= 0 ? elements : 1);
            CHECK.due("at(1, 0) then", x.at(1, 0), elements >= 0 ? 0.0 : 8.0);
        }
    }

    private static void shapeRefuses() {
        ArrayText x = filled();
        String before = Check.state(x);
        for (int v : NO_VARIABLES) {
            CHECK.due("shape(" + v + ", 1)", x.shape(v, 1), false);
        }
        for (int shape : new int[] {-1, 25, 31, 32, 57, 64, 64 + 13, 96 + 9, 801, 32 * 24 + 2, 32 * 25 + 1,
            Integer.MAX_VALUE, Integer.MIN_VALUE, Integer.MAX_VALUE - 30, Integer.MIN_VALUE + 1}) {
            CHECK.due("shape(3, " + shape + ")", x.shape(3, shape), false);
        }
        CHECK.due("state after what shape refused", Check.state(x), before);
    }

    private static void setChangesOneElement() {
        ArrayText x = filled();
        x.shape(2, 32 * 2 + 3);
        CHECK.due("set(2, 0, 1)", x.set(2, 0, 1), true);
        CHECK.due("set(2, 5, -7.5)", x.set(2, 5, -7.5), true);
        CHECK.due("set(2, 3, most)", x.set(2, 3, MOST), true);
        CHECK.due("set(2, 2, -most)", x.set(2, 2, -MOST), true);
        CHECK.due("variable 2", Check.array(x, 2), "67: 1 0 -1000000000000 1000000000000 0 -7.5");
        CHECK.due("variable 1", Check.array(x, 1), "2: 10.5 11.5");
        CHECK.due("variable 3", Check.array(x, 3), "4: 30.5 31.5 32.5 33.5");
        x.shape(7, 24);
        CHECK.due("set(7, 23, 9)", x.set(7, 23, 9), true);
        CHECK.due("at(7, 23)", x.at(7, 23), 9.0);
        x.put(0, 3);
        CHECK.due("set(0, 0, 6) of a number alone", x.set(0, 0, 6), true);
        CHECK.due("variable 0", Check.array(x, 0), "0: 6");
    }

    private static void setRefuses() {
        ArrayText x = filled();
        String before = Check.state(x);
        for (int v : NO_VARIABLES) {
            CHECK.due("set(" + v + ", 0, 1)", x.set(v, 0, 1), false);
        }
        for (int i : new int[] {-1, 3, 4, 23, 24, Integer.MAX_VALUE, Integer.MIN_VALUE}) {
            CHECK.due("set(2, " + i + ", 1)", x.set(2, i, 1), false);
        }
        for (double element : NO_ELEMENTS) {
            CHECK.due("set(3, 0, " + element + ")", x.set(3, 0, element), false);
        }
        CHECK.due("state after what set refused", Check.state(x), before);
    }

    private static void outsideAnswers() {
        ArrayText x = filled();
        for (int v : NO_VARIABLES) {
            CHECK.due("shapeOf(" + v + ")", x.shapeOf(v), -1);
            CHECK.due("size(" + v + ")", x.size(v), -1);
            CHECK.due("at(" + v + ", 0)", x.at(v, 0), 0.0);
        }
        for (int i : new int[] {-1, 3, 4, 24, 25, Integer.MAX_VALUE, Integer.MIN_VALUE}) {
            CHECK.due("at(2, " + i + ")", x.at(2, i), 0.0);
        }
        CHECK.due("at(2, 2)", x.at(2, 2), 22.5);
        CHECK.due("at(7, 7)", x.at(7, 7), 77.5);
    }
}
