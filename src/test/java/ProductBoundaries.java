/** Boundary cases of products told at once, and of carries: promises 21, 22, 23, 28 and 29. */
final class ProductBoundaries extends Boundaries {
    @Override
    void addAll() {
        products();
        refusedProducts();
        registersOfProducts();
        fitting();
        registersOfCarries();
        carries();
    }

    private void products() {
        int[] widths = {4, 5, 8, 15, 16};
        for (int width : widths) {
            int[] values = {least(width), -1, 0, 1, greatest(width)};
            for (int a : values) {
                for (int b : values) {
                    product(width, a, b);
                }
            }
        }
        of(21, "`recoding`: PAIRS, TRIPLES or SPARSE");
        when("each tells 11 times -7", o -> {
            setUp(o, 8, 11, -7);
            same(o.productByRows(0, 1, 0), -77);
            same(o.productByRows(0, 1, 1), -77);
            same(o.productByRows(0, 1, 2), -77);
        });
    }

    private void product(int width, int a, int b) {
        String both = a + " times " + b + " at width " + width;
        of(21, "Returns the product.");
        when(both, o -> {
            setUp(o, width, a, b);
            same(o.productByRows(0, 1, PAIRS), (long) a * b);
            same(o.productByRows(0, 1, SPARSE), (long) a * b);
            if (width % 2 == 0) {
                same(o.productByRows(0, 1, TRIPLES), (long) a * b);
            }
        });
        of(22, "that of the uppermost bit subtracted.");
        when(both, o -> {
            setUp(o, width, a, b);
            same(o.productByBits(0, 1), (long) a * b);
        });
    }

    private void refusedProducts() {
        of(21, NO_RECODING);
        noRecodings((o, recoding) -> o.productByRows(0, 1, recoding));
        when("at an odd width", o -> {
            o.setWidth(5);
            refuses(o, ARGUMENT, () -> o.productByRows(0, 1, 3));
        });
        of(21, ODD_WIDTH);
        for (int width = 5; width <= 15; width += 2) {
            int odd = width;
            when("width " + odd, o -> {
                setUp(o, odd, 3, -5);
                refuses(o, STATE, () -> o.productByRows(0, 1, TRIPLES));
                same(o.productByRows(0, 1, PAIRS), -15);
                same(o.productByRows(0, 1, SPARSE), -15);
            });
        }
    }

    private void registersOfProducts() {
        bothRegisters(21, "multiplicand", (o, register) -> o.productByRows(register, 0, PAIRS),
                "multiplier", (o, register) -> o.productByRows(0, register, PAIRS));
        bothRegisters(22, "multiplicand", (o, register) -> o.productByBits(register, 0),
                "multiplier", (o, register) -> o.productByBits(0, register));
        bothRegisters(23, "multiplicand", (o, register) -> o.fits(register, 0) ? 1 : 0,
                "multiplier", (o, register) -> o.fits(0, register) ? 1 : 0);
        of(21, "Returns the product.");
        when("of the first and the last register", o -> {
            o.set(0, -9);
            o.set(5, 13);
            same(o.productByRows(0, 5, PAIRS), -117);
            same(o.productByRows(5, 0, SPARSE), -117);
        });
        when("of a register by itself", o -> {
            o.set(5, -128);
            same(o.productByRows(5, 5, TRIPLES), 16384);
        });
        of(22, "Returns the product.");
        when("of the first and the last register", o -> {
            o.set(0, -9);
            o.set(5, 13);
            same(o.productByBits(0, 5), -117);
            same(o.productByBits(5, 0), -117);
        });
    }

    private void bothRegisters(int promise, String one, NumberCall oneCall, String other, NumberCall otherCall) {
        registers(promise, "`" + one + "`: 0 to 5", one, oneCall);
        registers(promise, "`" + other + "`: 0 to 5", other, otherCall);
    }

    private void fitting() {
        of(23, "Tells whether the product of two registers is a value of the width.");
        fits(8, 127, 1, true);
        fits(8, 16, 8, false);
        fits(8, -16, 8, true);
        fits(8, -43, 3, false);
        fits(8, -128, 1, true);
        fits(8, -128, -1, false);
        fits(8, -128, -128, false);
        fits(8, 0, -128, true);
        fits(4, 7, 1, true);
        fits(4, 4, 2, false);
        fits(4, -4, 2, true);
        fits(4, -3, 3, false);
        fits(5, 5, 3, true);
        fits(5, 4, 4, false);
        fits(16, 32767, 1, true);
        fits(16, 256, 128, false);
        fits(16, -256, 128, true);
        fits(16, -331, 99, false);
        fits(16, -32768, -32768, false);
        fits(16, 32767, 32767, false);
        fits(16, -32768, -1, false);
        fits(16, -32768, 1, true);
    }

    private void fits(int width, int a, int b, boolean due) {
        when(a + " times " + b + " at width " + width, o -> {
            setUp(o, width, a, b);
            holds(o.fits(0, 1) == due);
            holds(o.fits(1, 0) == due);
        });
    }

    private void registersOfCarries() {
        bothRegisters(28, "register", (o, register) -> o.carries(register, 0),
                "other", (o, register) -> o.carries(0, register));
        bothRegisters(29, "register", (o, register) -> o.longestRun(register, 0),
                "other", (o, register) -> o.longestRun(0, register));
    }

    private void carries() {
        adding(4, 0, 0, 0, 0);
        adding(4, 5, -6, 0, 0);
        adding(4, -1, 0, 0, 0);
        adding(4, -1, 1, 4, 4);
        adding(4, -1, -1, 4, 4);
        adding(4, -8, -8, 1, 1);
        adding(4, 7, 7, 3, 3);
        adding(4, 1, 1, 1, 1);
        adding(16, -1, -1, 16, 16);
        adding(16, -1, 1, 16, 16);
        adding(16, 32767, 1, 15, 15);
        adding(16, -32768, -32768, 1, 1);
        adding(16, 21845, 21845, 8, 1);
        adding(16, -21846, -21846, 8, 1);
        adding(15, -1, -1, 15, 15);
        // 00010111, 01110001, 00110011 and 11110001: the longest run first, last, twice, and to the uppermost bit.
        adding(8, 23, 17, 4, 3);
        adding(8, 113, 17, 4, 3);
        adding(8, 51, 17, 4, 2);
        adding(8, -15, -111, 5, 4);
    }

    private void adding(int width, int a, int b, int carries, int longest) {
        String both = a + " and " + b + " at width " + width;
        of(28, "Returns the number of carries, 0 to w.");
        when(both, o -> {
            setUp(o, width, a, b);
            same(o.carries(0, 1), carries);
            same(o.carries(1, 0), carries);
        });
        of(29, "Returns the number of carries in the longest run.");
        when(both, o -> {
            setUp(o, width, a, b);
            same(o.longestRun(0, 1), longest);
            same(o.longestRun(1, 0), longest);
        });
    }
}
