/** Promises 1 to 3: a new object, write and erase. */
public final class TextTest {
    private static final Check CHECK = new Check();

    public static void main(String[] args) {
        newObject();
        writeTakesCharactersFromTheLowest();
        writeEndsAtZero();
        writeRefusesCodes();
        writeRefusesTooMany();
        eraseEmpties();
        CHECK.end();
    }

    private static void newObject() {
        ArrayText x = new ArrayText();
        CHECK.due("state of a new object", Check.state(x),
                "0: 0; 0: 0; 0: 0; 0: 0; 0: 0; 0: 0; 0: 0; 0: 0; made 0, runs 0");
        CHECK.due("look() of a new object", Check.look(x), "throws.IllegalArgumentException");
        CHECK.due("erase() of a new object", x.erase(), 0);
        ArrayText other = new ArrayText();
        other.put(0, 5);
        other.write(Check.packed("a"));
        other.run(1);
        CHECK.due("state of one object after calls on another", Check.state(x), Check.state(new ArrayText()));
    }

    private static void writeTakesCharactersFromTheLowest() {
        ArrayText x = new ArrayText();
        CHECK.due("write of 9", x.write(Check.packed("9")), 1);
        CHECK.due("write of -12+3*40", x.write(Check.packed("-12+3*40")), 8);
        CHECK.due("run(0)", Check.run(x, 0), "1");
        CHECK.due("at(0, 0)", x.at(0, 0), 9.0 - (12 + 3 * 40));
        CHECK.due("write of -1", x.write(Check.packed("-1")), 2);
        CHECK.due("run(0)", Check.run(x, 0), "1");
        CHECK.due("at(0, 0)", x.at(0, 0), 9.0 - (12 + 3 * (40 - 1)));
        CHECK.due("erase()", x.erase(), 11);
    }

    private static void writeEndsAtZero() {
        ArrayText x = new ArrayText();
        CHECK.due("write(0)", x.write(0), 0);
        CHECK.due("write of 7, 0, 8", x.write(0x380037L), 1);
        CHECK.due("write of 0, 8", x.write(0x3800L), 0);
        CHECK.due("write of 1, 0, 200", x.write(0xC80031L), 1);
        CHECK.due("write of 2, 0, then all 255", x.write(0xFFFFFFFFFFFF0032L), 1);
        CHECK.due("write of 0, then all 255", x.write(0xFFFFFFFFFFFFFF00L), 0);
        CHECK.due("run(0)", Check.run(x, 0), "1");
        CHECK.due("at(0, 0)", x.at(0, 0), 712.0);
        CHECK.due("erase()", x.erase(), 3);
    }

    private static void writeRefusesCodes() {
        ArrayText x = new ArrayText();
        x.write(Check.packed("5"));
        CHECK.due("write of 128", x.write(128L), -1);
        CHECK.due("write of 255", x.write(255L), -1);
        CHECK.due("write(-1)", x.write(-1L), -1);
        CHECK.due("write of 1, 2, 128", x.write(0x803231L), -1);
        CHECK.due("write of seven and then 128", x.write(0x8037363534333231L), -1);
        CHECK.due("write(Long.MIN_VALUE), that begins with 0", x.write(Long.MIN_VALUE), 0);
        CHECK.due("run(0)", Check.run(x, 0), "1");
        CHECK.due("at(0, 0)", x.at(0, 0), 5.0);
        CHECK.due("erase()", x.erase(), 1);
        CHECK.due("write of 127", x.write(127L), 1);
        CHECK.due("write of 1", x.write(1L), 1);
        CHECK.due("write of eight times 127", x.write(0x7F7F7F7F7F7F7F7FL), 8);
        CHECK.due("erase()", x.erase(), 10);
    }

    private static void writeRefusesTooMany() {
        ArrayText x = new ArrayText();
        for (int k = 0; k < 4; k++) {
            CHECK.due("write of eight", x.write(Check.packed("--------")), 8);
        }
        CHECK.due("write of five", x.write(Check.packed("-----")), 5);
        CHECK.due("write of four to 37", x.write(Check.packed("----")), -1);
        CHECK.due("write of eight to 37", x.write(Check.packed("--------")), -1);
        CHECK.due("write of three to 37", x.write(Check.packed("--3")), 3);
        CHECK.due("write of one to 40", x.write(Check.packed("4")), -1);
        CHECK.due("write of none to 40", x.write(0), 0);
        CHECK.due("write of 200 to 40", x.write(200), -1);
        CHECK.due("run(0) of 40 characters", Check.run(x, 0), "1");
        CHECK.due("at(0, 0)", x.at(0, 0), -3.0);
        CHECK.due("erase()", x.erase(), 40);
        for (int k = 0; k < 5; k++) {
            CHECK.due("write of eight after erase", x.write(Check.packed("((((((((")), 8);
        }
        CHECK.due("erase()", x.erase(), 40);
    }

    private static void eraseEmpties() {
        ArrayText x = new ArrayText();
        x.put(0, 4);
        x.write(Check.packed("a+1"));
        x.run(1);
        String before = Check.state(x);
        CHECK.due("erase()", x.erase(), 3);
        CHECK.due("erase() again", x.erase(), 0);
        CHECK.due("look() of the empty text", Check.look(x), "throws.IllegalArgumentException");
        CHECK.due("state after erase", Check.state(x), before);
        x.write(Check.packed("9"));
        CHECK.due("run(0) after erase", Check.run(x, 0), "1");
        CHECK.due("at(0, 0)", x.at(0, 0), 9.0);
    }
}
