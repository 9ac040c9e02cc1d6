/** Boundary cases of registers, widths and values: promises 1, 2, 3, 16, 17 and 18, and the length of a run. */
final class RegisterBoundaries extends Boundaries {
    private static final int[] WIDTHS = {4, 5, 8, 15, 16};

    @Override
    void addAll() {
        runs();
        letters();
        firstValues();
        bits();
        wrapping();
        newObject();
        widthsOfSetWidth();
        valuesOfSetWidth();
        registersOfSet();
        valuesOfSet();
        looking();
    }

    private void runs() {
        of("What it is", "An object is used for at most 512 calls after it has been made");
        when("the 512th call is answered", o -> {
            for (int call = 1; call <= 510; call++) {
                o.set(0, call % 128);
            }
            o.undo();
            same(o.valueOf(0), 509 % 128);
        });
        when("steps are counted up to the 511th call", o -> {
            o.setWidth(16);
            for (int call = 2; call <= 511; call += 2) {
                o.begin(0, 0, PAIRS);
                o.finish();
            }
            same(o.stepsMade(), 255 * 16);
        });
    }

    private void letters() {
        of("Terms", "There are 6 registers, 0 to 5, written \"A\" to \"F\".");
        when("the first letter is the first register", o -> {
            carryOut(o, "A=#9");
            same(o.valueOf(0), 9);
        });
        when("the last letter is the last register", o -> {
            carryOut(o, "F=#9");
            same(o.valueOf(5), 9);
        });
        when("each letter is a register of its own", o -> {
            carryOut(o, "A=#1;B=#2;C=#3;D=#4;E=#5;F=#6");
            for (int register = 0; register < 6; register++) {
                same(o.valueOf(register), register + 1);
            }
        });
        when("no register is written by the sign ahead of A", o -> {
            Checks.type(o, "@=A");
            same(o.programError(), 0);
        });
        when("no register is written by the letter behind F", o -> {
            Checks.type(o, "G=A");
            same(o.programError(), 0);
        });
        when("no register is written by a small letter", o -> {
            Checks.type(o, "a=A");
            same(o.programError(), 0);
        });
    }

    private void firstValues() {
        of("Terms", "All have the same width w, 4 to 16 bits (8 at first), and a value from -2^(w-1) to 2^(w-1) - 1"
                + " (0 at first).");
        when("the width at first", o -> same(o.width(), 8));
        when("the values at first", o -> {
            for (int register = 0; register < 6; register++) {
                same(o.valueOf(register), 0);
            }
        });
        when("a new width is that of all registers", o -> {
            o.setWidth(4);
            for (int register = 0; register < 6; register++) {
                int one = register;
                same(o.set(one, 7), 0);
                refuses(o, ARGUMENT, () -> o.set(one, 8));
            }
        });
    }

    private void bits() {
        of("Terms", "The bits of a value are those of the number modulo 2^w, bit 0 with the weight 1.");
        for (int width : WIDTHS) {
            when("-1 at width " + width, o -> parts(o, width, -1, width, (1 << width) - 1));
            when("the least value at width " + width, o -> parts(o, width, least(width), 1, 1 << (width - 1)));
            when("the greatest value at width " + width,
                    o -> parts(o, width, greatest(width), width - 1, greatest(width)));
            when("0 at width " + width, o -> parts(o, width, 0, 0, 0));
        }
        when("bit 0 is that of the value 1", o -> {
            o.set(0, 1);
            same(o.digitAt(0, PAIRS, 0), -1);
            same(o.digitAt(0, PAIRS, 1), 1);
        });
    }

    private static void parts(BoothOtters otters, int width, int value, int ones, int low) {
        begin(otters, width, 0, value, PAIRS);
        same(otters.onesOf(1), ones);
        same(otters.lowPart(), low);
    }

    private void wrapping() {
        of("Terms", "To wrap a number means to take the value that differs from it by a multiple of 2^w.");
        wraps(8, "A=#127", 127);
        wraps(8, "A=#128", -128);
        wraps(8, "A=#-128", -128);
        wraps(8, "A=#-129", 127);
        wraps(8, "A=#255", -1);
        wraps(8, "A=#256", 0);
        wraps(8, "A=#-255", 1);
        wraps(8, "A=#-256", 0);
        wraps(4, "A=#7", 7);
        wraps(4, "A=#8", -8);
        wraps(4, "A=#-8", -8);
        wraps(4, "A=#-9", 7);
        wraps(4, "A=#32767", -1);
        wraps(4, "A=#-32768", 0);
        wraps(15, "A=#16384", -16384);
        wraps(15, "A=#32767", -1);
        wraps(16, "A=#32767", 32767);
        wraps(16, "A=#-32768", -32768);
        wraps(16, "A=#32767;B=#1;A=A+B", -32768);
        wraps(16, "A=#-32768;B=#1;A=A-B", 32767);
        wraps(16, "A=#-32768;A=-A", -32768);
        wraps(16, "A=#-32768;A=A*A", 0);
        wraps(16, "A=#32767;A=A*A", 1);
    }

    private void wraps(int width, String program, int due) {
        when(program + " at width " + width + " gives " + due, o -> {
            o.setWidth(width);
            same(carryOut(o, program), due);
            same(o.valueOf(0), due);
        });
    }

    private void newObject() {
        of(1, "Creates registers of 8 bits.");
        when("127 is a value", o -> same(o.set(0, 127), 0));
        when("128 is none", o -> refuses(o, ARGUMENT, () -> o.set(0, 128)));
        when("-128 is a value", o -> same(o.set(0, -128), 0));
        when("-129 is none", o -> refuses(o, ARGUMENT, () -> o.set(0, -129)));
        when("another object's registers are its own", o -> {
            new BoothOtters().set(0, 9);
            same(o.valueOf(0), 0);
        });
    }

    private void widthsOfSetWidth() {
        of(2, "`bits`: 4 to 16");
        when("the least width", o -> {
            same(o.setWidth(4), 8);
            same(o.width(), 4);
        });
        when("the greatest width", o -> {
            same(o.setWidth(16), 8);
            same(o.width(), 16);
        });
        when("each width between", o -> {
            for (int width = 5; width <= 15; width++) {
                o.setWidth(width);
                same(o.width(), width);
            }
        });
        of(2, "Throws `IllegalArgumentException` if bits is out of range");
        int[] none = {3, 17, 0, -1, -8, Integer.MIN_VALUE, Integer.MAX_VALUE};
        for (int bits : none) {
            when("bits " + bits, o -> refuses(o, ARGUMENT, () -> o.setWidth(bits)));
        }
        of(2, "Returns the previous width.");
        when("from the greatest to the least", o -> {
            o.setWidth(16);
            same(o.setWidth(4), 16);
            same(o.setWidth(16), 4);
        });
        when("to the width that is there", o -> {
            same(o.setWidth(8), 8);
            same(o.setWidth(8), 8);
        });
        when("after a width that was refused", o -> {
            refuses(o, ARGUMENT, () -> o.setWidth(17));
            same(o.setWidth(9), 8);
        });
    }

    private void valuesOfSetWidth() {
        of(2, "Changes the width; the values are wrapped.");
        narrows(8, 7, 4, 7);
        narrows(8, 8, 4, -8);
        narrows(8, -8, 4, -8);
        narrows(8, -9, 4, 7);
        narrows(8, 16, 4, 0);
        narrows(8, -16, 4, 0);
        narrows(16, 32767, 15, -1);
        narrows(16, -32768, 15, 0);
        narrows(16, 16384, 15, -16384);
        narrows(16, -16385, 15, 16383);
        narrows(4, -8, 16, -8);
        narrows(4, 7, 16, 7);
        narrows(8, -128, 8, -128);
        narrows(8, 127, 8, 127);
        when("what was wrapped away stays away", o -> {
            o.set(0, 100);
            o.setWidth(4);
            o.setWidth(8);
            same(o.valueOf(0), 4);
        });
        when("all registers are wrapped", o -> {
            for (int register = 0; register < 6; register++) {
                o.set(register, 8 + register);
            }
            o.setWidth(4);
            for (int register = 0; register < 6; register++) {
                same(o.valueOf(register), register - 8);
            }
        });
    }

    private void narrows(int from, int value, int to, int due) {
        when(value + " from width " + from + " to " + to + " gives " + due, o -> {
            setUp(o, from, value, 0);
            o.setWidth(to);
            same(o.valueOf(0), due);
        });
    }

    private void registersOfSet() {
        registers(3, "`register`: 0 to 5", "register", (o, register) -> o.set(register, 1));
        of(3, "Sets a register.");
        when("the first register alone", o -> {
            o.set(0, -7);
            same(o.valueOf(0), -7);
            same(o.valueOf(1), 0);
        });
        when("the last register alone", o -> {
            o.set(5, -7);
            same(o.valueOf(5), -7);
            same(o.valueOf(4), 0);
        });
    }

    private void valuesOfSet() {
        for (int width : WIDTHS) {
            of(3, "`value`: a value of the width");
            when("the least at width " + width, o -> takes(o, width, least(width)));
            when("the greatest at width " + width, o -> takes(o, width, greatest(width)));
            of(3, "Throws `IllegalArgumentException` if value is none of the width");
            when("one too small at width " + width, o -> leaves(o, width, least(width) - 1));
            when("one too large at width " + width, o -> leaves(o, width, greatest(width) + 1));
            when("2^w too large at width " + width, o -> leaves(o, width, 1 << width));
            when("the least number at width " + width, o -> leaves(o, width, Integer.MIN_VALUE));
            when("the greatest number at width " + width, o -> leaves(o, width, Integer.MAX_VALUE));
        }
        of(3, "Returns the previous value.");
        when("0 at first", o -> same(o.set(0, 5), 0));
        when("the least value", o -> {
            o.set(0, -128);
            same(o.set(0, 127), -128);
        });
        when("the greatest value", o -> {
            o.set(0, 127);
            same(o.set(0, -128), 127);
        });
        when("the value that is there", o -> {
            o.set(0, 5);
            same(o.set(0, 5), 5);
        });
        when("after a value that was refused", o -> {
            o.set(0, 5);
            refuses(o, ARGUMENT, () -> o.set(0, 128));
            same(o.set(0, 6), 5);
        });
    }

    private static void takes(BoothOtters otters, int width, int value) {
        otters.setWidth(width);
        otters.set(2, value);
        same(otters.valueOf(2), value);
    }

    private static void leaves(BoothOtters otters, int width, int value) {
        otters.setWidth(width);
        refuses(otters, ARGUMENT, () -> otters.set(2, value));
    }

    private void looking() {
        of(16, "Returns the width.");
        when("that of a new object", o -> same(o.width(), 8));
        when("that of before, where a width is refused", o -> {
            o.setWidth(16);
            refuses(o, ARGUMENT, () -> o.setWidth(3));
            same(o.width(), 16);
        });
        registers(17, "`register`: 0 to 5", "register", (o, register) -> o.valueOf(register));
        of(17, "Returns the value.");
        when("the least of the widest", o -> takes(o, 16, -32768));
        when("the greatest of the widest", o -> takes(o, 16, 32767));
        registers(18, "`register`: 0 to 5", "register", (o, register) -> o.onesOf(register));
        of(18, "Returns the number of bits of a register that are 1.");
        when("none", o -> same(o.onesOf(0), 0));
        when("all of the narrowest", o -> parts(o, 4, -1, 4, 15));
        when("all of the widest", o -> parts(o, 16, -1, 16, 65535));
        when("every second one", o -> parts(o, 8, 85, 4, 85));
        when("every other second one", o -> parts(o, 8, -86, 4, 170));
    }
}
