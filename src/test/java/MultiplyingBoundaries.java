/** Boundary cases of multiplying step by step: promises 4 to 7, 24 to 27 and 31. */
final class MultiplyingBoundaries extends Boundaries {
    private static final String NOTHING_MULTIPLIED = "Throws `IllegalStateException` if nothing is multiplied";

    @Override
    void addAll() {
        beginnings();
        pairs();
        triples();
        products();
        givenUp();
        registersOfBegin();
        recodingsOfBegin();
        valuesOfNow();
        steps();
        finishing();
        registersOfStore();
        whenStoreIsRefused();
        productsStored();
        parts();
        counts();
    }

    private void beginnings() {
        of("Terms", "As it begins, the high part is 0, the low part are the bits of the multiplier,"
                + " as a number from 0 to 2^w - 1, and the extra bit is 0.");
        int[] widths = {4, 8, 16};
        for (int width : widths) {
            begins(width, 0, 0);
            begins(width, -1, (1 << width) - 1);
            begins(width, least(width), 1 << (width - 1));
            begins(width, greatest(width), greatest(width));
        }
        when("behind a multiplication that left other parts", o -> {
            begin(o, 8, -1, -1, PAIRS);
            o.finish();
            o.begin(0, 2, TRIPLES);
            parts(o, 4, 0, 0, 0);
        });
    }

    private void begins(int width, int multiplier, int low) {
        when("multiplier " + multiplier + " at width " + width, o -> {
            begin(o, width, least(width), multiplier, PAIRS);
            parts(o, width, 0, low, 0);
        });
    }

    /** By PAIRS, at width 8: 8 steps, and the product fits. */
    private static void beginFiveTimesThree(BoothOtters otters) {
        begin(otters, 8, 5, 3, PAIRS);
    }

    private static void parts(BoothOtters otters, int left, int high, int low, int extra) {
        same(otters.stepsLeft(), left);
        same(otters.highPart(), high);
        same(otters.lowPart(), low);
        same(otters.extraBit(), extra);
    }

    private static void stepTo(BoothOtters otters, int digit, int left, int high, int low, int extra) {
        same(otters.step(), digit);
        parts(otters, left, high, low, extra);
    }

    /** All worked out by hand. */
    private void pairs() {
        of("Terms", "With PAIRS there are w steps;"
                + " in each of them the digit is the extra bit less bit 0 of the low part;");
        when("digit -1 at bits 0 and 1", o -> {
            begin(o, 4, 0, 1, PAIRS);
            stepTo(o, -1, 3, 0, 0, 1);
        });
        when("digit 1 at bits 1 and 0", o -> {
            begin(o, 4, 0, 1, PAIRS);
            o.step();
            stepTo(o, 1, 2, 0, 0, 0);
        });
        when("digit 0 at bits 1 and 1", o -> {
            begin(o, 4, 0, 3, PAIRS);
            o.step();
            stepTo(o, 0, 2, 0, 0, 1);
        });
        when("digit 0 at bits 0 and 0", o -> {
            begin(o, 4, 7, 2, PAIRS);
            stepTo(o, 0, 3, 0, 1, 0);
        });
        of("Terms", "bit 0 of the high part becomes the uppermost bit of the low part,"
                + " and the high part is divided by 2, rounded down.");
        when("-1 is rounded down to -1", o -> {
            begin(o, 4, 1, 1, PAIRS);
            stepTo(o, -1, 3, -1, 8, 1);
        });
        when("1 is rounded down to 0", o -> {
            begin(o, 4, -1, 1, PAIRS);
            stepTo(o, -1, 3, 0, 8, 1);
        });
        when("-7 is rounded down to -4", o -> {
            begin(o, 4, 7, 1, PAIRS);
            stepTo(o, -1, 3, -4, 8, 1);
        });
        when("the high part is not wrapped to the width", o -> {
            begin(o, 4, -8, 1, PAIRS);
            stepTo(o, -1, 3, 4, 0, 1);
        });
        when("the uppermost bit at the greatest width", o -> {
            begin(o, 16, 1, 1, PAIRS);
            stepTo(o, -1, 15, -1, 32768, 1);
        });
    }

    private void triples() {
        of("Terms", "With TRIPLES there are w / 2 steps;"
                + " the digit is the extra bit plus bit 0 less twice bit 1 of the low part;"
                + " the extra bit becomes bit 1 of the low part, and the shift is by 2 bits.");
        int[] digits = {0, 1, -2, -1};
        for (int bits = 0; bits < 4; bits++) {
            int low = bits;
            when("bits " + low + ", extra bit 0", o -> {
                begin(o, 4, 0, low, TRIPLES);
                stepTo(o, digits[low], 1, 0, 0, low / 2);
            });
            when("bits " + low + ", extra bit 1", o -> {
                begin(o, 8, 0, 4 * low + 2, TRIPLES);
                o.step();
                stepTo(o, digits[low] + 1, 2, 0, 0, low / 2);
            });
        }
        when("-1 is rounded down to -1", o -> {
            begin(o, 4, 1, 3, TRIPLES);
            stepTo(o, -1, 1, -1, 12, 1);
        });
        when("3 is rounded down to 0", o -> {
            begin(o, 4, -3, 3, TRIPLES);
            stepTo(o, -1, 1, 0, 12, 1);
        });
        when("the high part is not wrapped to the width", o -> {
            begin(o, 4, -8, 2, TRIPLES);
            stepTo(o, -2, 1, 4, 0, 1);
        });
        when("the two uppermost bits at the greatest width", o -> {
            begin(o, 16, 3, 1, TRIPLES);
            stepTo(o, 1, 7, 0, 49152, 0);
        });
    }

    private void products() {
        of("Terms", "When no steps are left, the product is the high part times 2^w, plus the low part.");
        int[] widths = {4, 8, 16};
        for (int width : widths) {
            int[] values = {least(width), -1, 0, 1, greatest(width)};
            for (int a : values) {
                for (int b : values) {
                    product(width, a, b, PAIRS);
                    product(width, a, b, TRIPLES);
                }
            }
        }
        product(5, -16, -16, PAIRS);
        product(15, -16384, -16384, PAIRS);
    }

    private void product(int width, int a, int b, int recoding) {
        when(a + " times " + b + " at width " + width + ", recoding " + recoding, o -> {
            begin(o, width, a, b, recoding);
            o.finish();
            same(o.highPart() * (1L << width) + o.lowPart(), (long) a * b);
        });
    }

    private void givenUp() {
        of("Terms", "A multiplication is given up when another one begins,"
                + " and by each call of setWidth() that throws no exception.");
        when("another one begins half way", o -> {
            beginFiveTimesThree(o);
            steps(o, 3);
            o.begin(1, 0, TRIPLES);
            parts(o, 4, 0, 5, 0);
        });
        when("the same one begins again", o -> {
            beginFiveTimesThree(o);
            steps(o, 3);
            o.begin(0, 1, PAIRS);
            parts(o, 8, 0, 3, 0);
        });
        when("a begin that throws leaves it", o -> {
            beginFiveTimesThree(o);
            refuses(o, ARGUMENT, () -> o.begin(0, 1, SPARSE));
            same(o.stepsLeft(), 8);
        });
        when("another width", o -> givenUpBy(o, 16));
        when("the same width", o -> givenUpBy(o, 8));
        when("setWidth gives up what is multiplied to the end", o -> {
            beginFiveTimesThree(o);
            o.finish();
            o.setWidth(8);
            refuses(o, STATE, () -> o.store(0));
        });
        when("a width too small leaves it", o -> leftBy(o, 3));
        when("a width too large leaves it", o -> leftBy(o, 17));
    }

    private static void givenUpBy(BoothOtters otters, int width) {
        beginFiveTimesThree(otters);
        otters.setWidth(width);
        same(otters.stepsLeft(), NONE);
    }

    private static void leftBy(BoothOtters otters, int width) {
        beginFiveTimesThree(otters);
        refuses(otters, ARGUMENT, () -> otters.setWidth(width));
        same(otters.stepsLeft(), 8);
    }

    private void registersOfBegin() {
        registers(4, "`multiplicand`: 0 to 5: a register, whose value of now counts", "multiplicand",
                (o, register) -> o.begin(register, 0, PAIRS));
        registers(4, "`multiplier`: 0 to 5: a register, whose value of now counts", "multiplier",
                (o, register) -> o.begin(0, register, PAIRS));
        of(4, "Begins a multiplication.");
        when("of the first register by the last", o -> {
            o.set(0, -3);
            o.set(5, 7);
            o.begin(0, 5, PAIRS);
            o.finish();
            same(o.store(1), -21);
        });
        when("of the last register by the first", o -> {
            o.set(0, 7);
            o.set(5, -3);
            o.begin(5, 0, PAIRS);
            same(o.lowPart(), 7);
            o.finish();
            same(o.store(1), -21);
        });
        when("of a register by itself", o -> {
            o.set(3, -11);
            o.begin(3, 3, TRIPLES);
            o.finish();
            same(o.store(3), 121);
        });
    }

    private void recodingsOfBegin() {
        of(4, "`recoding`: PAIRS or TRIPLES");
        when("PAIRS", o -> same(o.begin(0, 1, 0), 8));
        when("TRIPLES", o -> same(o.begin(0, 1, 1), 4));
        of(4, "Throws `IllegalArgumentException` if recoding is neither");
        when("SPARSE", o -> refuses(o, ARGUMENT, () -> o.begin(0, 1, SPARSE)));
        when("SPARSE at an odd width", o -> {
            o.setWidth(5);
            refuses(o, ARGUMENT, () -> o.begin(0, 1, SPARSE));
        });
        noRecodings((o, recoding) -> o.begin(0, 1, recoding));
        of(4, ODD_WIDTH);
        for (int width = 5; width <= 15; width += 2) {
            int odd = width;
            when("width " + odd, o -> {
                o.setWidth(odd);
                refuses(o, STATE, () -> o.begin(0, 1, TRIPLES));
                same(o.begin(0, 1, PAIRS), odd);
            });
        }
        of(4, "Returns the number of steps.");
        when("PAIRS at the least width", o -> same(begin(o, 4, 0, 0, PAIRS), 4));
        when("PAIRS at the greatest width", o -> same(begin(o, 16, 0, 0, PAIRS), 16));
        when("TRIPLES at the least width", o -> same(begin(o, 4, 0, 0, TRIPLES), 2));
        when("TRIPLES at the greatest width", o -> same(begin(o, 16, 0, 0, TRIPLES), 8));
        when("PAIRS at an odd width", o -> same(begin(o, 5, 0, 0, PAIRS), 5));
    }

    private void valuesOfNow() {
        of(4, "`multiplicand`: 0 to 5: a register, whose value of now counts");
        when("the multiplicand is set afterwards", o -> {
            begin(o, 8, 9, 5, PAIRS);
            o.set(0, 1);
            o.finish();
            same(o.store(2), 45);
        });
        when("the multiplicand is changed half way", o -> {
            begin(o, 8, 9, 5, PAIRS);
            steps(o, 2);
            carryOut(o, "A=#1");
            o.finish();
            same(o.store(2), 45);
        });
        of(4, "`multiplier`: 0 to 5: a register, whose value of now counts");
        when("the multiplier is set afterwards", o -> {
            begin(o, 8, 9, 5, TRIPLES);
            o.set(1, 1);
            o.finish();
            same(o.store(2), 45);
        });
    }

    private void steps() {
        String refused = "Throws `IllegalStateException` if no steps are left, or nothing is multiplied";
        of(5, refused);
        when("nothing is multiplied in a new object", o -> refuses(o, STATE, () -> o.step()));
        when("nothing is multiplied after setWidth", o -> {
            beginFiveTimesThree(o);
            o.setWidth(8);
            refuses(o, STATE, () -> o.step());
        });
        noStepBehind("the last PAIRS step of the narrowest", 4, PAIRS, 4);
        noStepBehind("the last PAIRS step of the widest", 16, PAIRS, 16);
        noStepBehind("the last TRIPLES step of the narrowest", 4, TRIPLES, 2);
        noStepBehind("the last TRIPLES step of the widest", 16, TRIPLES, 8);
        when("no steps are left after finish", o -> {
            beginFiveTimesThree(o);
            o.finish();
            refuses(o, STATE, () -> o.step());
        });
        of(5, "Returns the digit.");
        when("the least digit of TRIPLES", o -> {
            begin(o, 8, 0, 2, TRIPLES);
            same(o.step(), -2);
        });
        when("the greatest digit of TRIPLES", o -> {
            begin(o, 8, 0, 6, TRIPLES);
            o.step();
            same(o.step(), 2);
        });
        when("the last digit of the least value", o -> {
            begin(o, 8, 0, -128, PAIRS);
            steps(o, 7);
            same(o.step(), -1);
        });
        when("the last digit of the greatest value", o -> {
            begin(o, 8, 0, 127, PAIRS);
            steps(o, 7);
            same(o.step(), 1);
        });
    }

    private void noStepBehind(String what, int width, int recoding, int count) {
        when(what, o -> {
            begin(o, width, 5, 3, recoding);
            steps(o, count);
            same(o.stepsLeft(), 0);
            refuses(o, STATE, () -> o.step());
        });
    }

    private void finishing() {
        of(6, NOTHING_MULTIPLIED);
        when("in a new object", o -> refuses(o, STATE, () -> o.finish()));
        when("after setWidth", o -> {
            beginFiveTimesThree(o);
            o.setWidth(8);
            refuses(o, STATE, () -> o.finish());
        });
        of(6, "Makes all steps that are left.");
        finishes("all are left", 0);
        finishes("one is left", 7);
        finishes("none is left", 8);
        of(6, "Returns the number of digits that were not 0.");
        when("multiplier 0 by PAIRS", o -> counts(o, 8, 0, PAIRS, 0, 0));
        when("multiplier 0 by TRIPLES", o -> counts(o, 8, 0, TRIPLES, 0, 0));
        when("every digit of PAIRS", o -> counts(o, 16, 21845, PAIRS, 0, 16));
        when("every digit of TRIPLES", o -> counts(o, 16, 21845, TRIPLES, 0, 8));
        when("the last digit alone", o -> counts(o, 8, -128, PAIRS, 0, 1));
        when("the last digit, which is left alone", o -> counts(o, 8, -128, PAIRS, 7, 1));
        when("digits of steps made before count no more", o -> counts(o, 8, 85, PAIRS, 3, 5));
        when("no steps left", o -> counts(o, 8, 85, PAIRS, 8, 0));
    }

    private void finishes(String name, int before) {
        when(name, o -> {
            begin(o, 8, -7, 11, PAIRS);
            steps(o, before);
            o.finish();
            same(o.stepsLeft(), 0);
            same(o.stepsMade(), 8);
            same(o.store(2), -77);
        });
    }

    private static void counts(BoothOtters otters, int width, int multiplier, int recoding, int before, int due) {
        begin(otters, width, 1, multiplier, recoding);
        steps(otters, before);
        same(otters.finish(), due);
    }

    private void registersOfStore() {
        registers(7, "`register`: 0 to 5", "register", o -> {
            beginFiveTimesThree(o);
            o.finish();
        }, (o, register) -> o.store(register));
        of(7, "Puts the product into a register, wrapped;");
        when("into the first register, which was multiplied", o -> storedInto(o, 0));
        when("into the last register", o -> storedInto(o, 5));
        when("twice", o -> {
            storedInto(o, 1);
            same(o.store(2), -15);
        });
    }

    private static void storedInto(BoothOtters otters, int register) {
        begin(otters, 8, -5, 3, TRIPLES);
        otters.finish();
        same(otters.store(register), -15);
        same(otters.valueOf(register), -15);
    }

    private void whenStoreIsRefused() {
        of(7, "Throws `IllegalStateException` if steps are left, or nothing is multiplied");
        when("all steps are left", o -> {
            beginFiveTimesThree(o);
            refuses(o, STATE, () -> o.store(0));
        });
        when("one step is left", o -> {
            beginFiveTimesThree(o);
            steps(o, 7);
            refuses(o, STATE, () -> o.store(0));
        });
        when("the last step made, none is left", o -> {
            beginFiveTimesThree(o);
            steps(o, 8);
            same(o.store(0), 15);
        });
        when("nothing is multiplied in a new object", o -> refuses(o, STATE, () -> o.store(0)));
        when("nothing is multiplied after setWidth", o -> {
            beginFiveTimesThree(o);
            o.finish();
            o.setWidth(8);
            refuses(o, STATE, () -> o.store(0));
        });
    }

    private void productsStored() {
        of(7, "one that is not a value of the width counts as an overflow.");
        stores(8, 127, 1, 127, 0);
        stores(8, 16, 8, -128, 1);
        stores(8, 16, -8, -128, 0);
        stores(8, 43, -3, 127, 1);
        stores(8, -128, -128, 0, 1);
        stores(8, -128, -1, -128, 1);
        stores(8, 17, 15, -1, 1);
        stores(4, -8, 1, -8, 0);
        stores(4, -4, -2, -8, 1);
        stores(4, 3, -3, 7, 1);
        stores(16, -32768, -32768, 0, 1);
        stores(16, 32767, 32767, 1, 1);
        stores(16, 32767, 1, 32767, 0);
        stores(16, 256, 128, -32768, 1);
        stores(16, 256, -128, -32768, 0);
        stores(16, 331, -99, 32767, 1);
        of(7, "Returns the value of the register afterwards.");
        when("the wrapped one", o -> {
            begin(o, 8, 16, 8, PAIRS);
            o.finish();
            same(o.store(3), o.valueOf(3));
        });
    }

    private void stores(int width, int a, int b, int value, int overflows) {
        when(a + " times " + b + " at width " + width, o -> {
            begin(o, width, a, b, PAIRS);
            o.finish();
            same(o.store(2), value);
            same(o.valueOf(2), value);
            same(o.overflows(), overflows);
        });
    }

    private void parts() {
        refusedParts(25, o -> o.highPart());
        refusedParts(26, o -> o.lowPart());
        refusedParts(27, o -> o.extraBit());
        of(25, "Returns the high part.");
        when("0 as it begins", o -> {
            beginFiveTimesThree(o);
            same(o.highPart(), 0);
        });
        when("below 0", o -> {
            begin(o, 16, 32767, 1, PAIRS);
            o.step();
            same(o.highPart(), -16384);
        });
        when("the greatest of all products", o -> {
            begin(o, 16, -32768, -32768, TRIPLES);
            o.finish();
            same(o.highPart(), 16384);
        });
        when("after the last step", o -> {
            begin(o, 8, -128, 127, PAIRS);
            o.finish();
            same(o.highPart(), -64);
        });
        of(26, "Returns the low part, 0 to 2^w - 1.");
        when("0", o -> same(lowOf(o, 4, 0), 0));
        when("2^4 - 1", o -> same(lowOf(o, 4, -1), 15));
        when("2^16 - 1", o -> same(lowOf(o, 16, -1), 65535));
        when("2^16 - 1 as the product's", o -> {
            begin(o, 16, 1, -1, TRIPLES);
            o.finish();
            same(o.lowPart(), 65535);
            same(o.highPart(), -1);
        });
        of(27, "Returns 0 or 1.");
        when("0 as it begins", o -> {
            beginFiveTimesThree(o);
            same(o.extraBit(), 0);
        });
        when("1 after the last step of a value below 0", o -> same(lastExtraBit(o, -128), 1));
        when("0 after the last step of a value above 0", o -> same(lastExtraBit(o, 127), 0));
    }

    private static int lowOf(BoothOtters otters, int width, int multiplier) {
        begin(otters, width, 1, multiplier, PAIRS);
        return otters.lowPart();
    }

    private static int lastExtraBit(BoothOtters otters, int multiplier) {
        begin(otters, 8, 1, multiplier, TRIPLES);
        otters.finish();
        return otters.extraBit();
    }

    /** What a part's call answers. */
    private interface Part {
        long of(BoothOtters otters);
    }

    private void refusedParts(int promise, Part part) {
        of(promise, NOTHING_MULTIPLIED);
        when("in a new object", o -> refuses(o, STATE, () -> part.of(o)));
        when("after setWidth", o -> {
            beginFiveTimesThree(o);
            o.setWidth(8);
            refuses(o, STATE, () -> part.of(o));
        });
        when("no steps left, yet multiplied", o -> {
            begin(o, 8, 0, 0, PAIRS);
            o.finish();
            same(part.of(o), 0);
        });
    }

    private void counts() {
        of(24, "Returns the number of steps of the multiplication that are left; NONE if nothing is multiplied.");
        when("nothing in a new object", o -> same(o.stepsLeft(), NONE));
        when("nothing after setWidth", o -> givenUpBy(o, 9));
        when("all", o -> {
            begin(o, 16, 5, 3, PAIRS);
            same(o.stepsLeft(), 16);
        });
        when("one", o -> {
            begin(o, 4, 5, 3, TRIPLES);
            o.step();
            same(o.stepsLeft(), 1);
        });
        when("none", o -> {
            beginFiveTimesThree(o);
            o.finish();
            same(o.stepsLeft(), 0);
        });
        when("none after store", o -> {
            storedInto(o, 0);
            same(o.stepsLeft(), 0);
        });
        of(31, "Returns the number of steps of multiplications so far.");
        when("none", o -> same(o.stepsMade(), 0));
        when("none by begin", o -> {
            beginFiveTimesThree(o);
            same(o.stepsMade(), 0);
        });
        when("one", o -> {
            beginFiveTimesThree(o);
            o.step();
            same(o.stepsMade(), 1);
        });
        when("those of one that was given up", o -> {
            beginFiveTimesThree(o);
            steps(o, 3);
            o.setWidth(8);
            o.begin(0, 1, TRIPLES);
            o.finish();
            same(o.stepsMade(), 7);
        });
        when("none by a finish with no steps left", o -> {
            beginFiveTimesThree(o);
            o.finish();
            o.finish();
            same(o.stepsMade(), 8);
        });
        when("none by a step that is refused", o -> {
            refuses(o, STATE, () -> o.step());
            same(o.stepsMade(), 0);
        });
        when("none by a program's product", o -> {
            carryOut(o, "A=B*C");
            same(o.stepsMade(), 0);
        });
        when("none by products told at once", o -> {
            o.productByRows(0, 1, PAIRS);
            o.productByBits(0, 1);
            same(o.stepsMade(), 0);
        });
    }
}
