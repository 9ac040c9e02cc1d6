/** Boundary cases of the digits: the recodings, promises 19 and 20. */
final class DigitBoundaries extends Boundaries {
    @Override
    void addAll() {
        pairs();
        triples();
        sparse();
        registersOfDigits();
        places();
        recodings();
        oddWidths();
        rows();
    }

    /** The digits worked out by hand, from place 0 on; behind the last there is none. */
    private void digits(int width, int value, int recoding, int... due) {
        when(value + " at width " + width, o -> {
            setUp(o, width, value, 0);
            int rows = 0;
            for (int place = 0; place < due.length; place++) {
                same(o.digitAt(0, recoding, place), due[place]);
                rows += due[place] == 0 ? 0 : 1;
            }
            same(o.rowsOf(0, recoding), rows);
            refuses(o, INDEX, () -> o.digitAt(0, recoding, due.length));
        });
    }

    private void pairs() {
        of("Terms", "PAIRS: w digits; d(k) is bit k - 1 less bit k (bit -1 is 0);");
        digits(4, 0, PAIRS, 0, 0, 0, 0);
        digits(4, -1, PAIRS, -1, 0, 0, 0);
        digits(4, 1, PAIRS, -1, 1, 0, 0);
        digits(4, -8, PAIRS, 0, 0, 0, -1);
        digits(4, 7, PAIRS, -1, 0, 0, 1);
        digits(4, 5, PAIRS, -1, 1, -1, 1);
        digits(5, -16, PAIRS, 0, 0, 0, 0, -1);
        digits(5, 15, PAIRS, -1, 0, 0, 0, 1);
        digits(16, -32768, PAIRS, 0, 0, 0, 0, 0, 0, 0, 0, 0, 0, 0, 0, 0, 0, 0, -1);
        digits(16, 32767, PAIRS, -1, 0, 0, 0, 0, 0, 0, 0, 0, 0, 0, 0, 0, 0, 0, 1);
        digits(16, 16384, PAIRS, 0, 0, 0, 0, 0, 0, 0, 0, 0, 0, 0, 0, 0, 0, -1, 1);
    }

    private void triples() {
        of("Terms", "TRIPLES: w / 2 digits, for an even width only;"
                + " d(k) is bit 2k - 1 plus bit 2k less twice bit 2k + 1;");
        digits(4, 0, TRIPLES, 0, 0);
        digits(4, -1, TRIPLES, -1, 0);
        digits(4, 1, TRIPLES, 1, 0);
        digits(4, 2, TRIPLES, -2, 1);
        digits(4, 6, TRIPLES, -2, 2);
        digits(4, 7, TRIPLES, -1, 2);
        digits(4, -8, TRIPLES, 0, -2);
        digits(4, -6, TRIPLES, -2, -1);
        digits(16, -32768, TRIPLES, 0, 0, 0, 0, 0, 0, 0, -2);
        digits(16, 32767, TRIPLES, -1, 0, 0, 0, 0, 0, 0, 2);
        digits(16, 21845, TRIPLES, 1, 1, 1, 1, 1, 1, 1, 1);
    }

    private void sparse() {
        of("Terms", "SPARSE: w digits -1, 0 and 1, of which no two that are not 0 stand next to each other;");
        digits(4, 0, SPARSE, 0, 0, 0, 0);
        digits(4, -1, SPARSE, -1, 0, 0, 0);
        digits(4, 3, SPARSE, -1, 0, 1, 0);
        digits(4, -3, SPARSE, 1, 0, -1, 0);
        digits(4, 5, SPARSE, 1, 0, 1, 0);
        digits(4, 6, SPARSE, 0, -1, 0, 1);
        digits(4, 7, SPARSE, -1, 0, 0, 1);
        digits(4, -8, SPARSE, 0, 0, 0, -1);
        digits(4, -7, SPARSE, 1, 0, 0, -1);
        digits(4, -6, SPARSE, 0, 1, 0, -1);
        digits(5, 11, SPARSE, -1, 0, -1, 0, 1);
        digits(5, -16, SPARSE, 0, 0, 0, 0, -1);
        digits(5, 15, SPARSE, -1, 0, 0, 0, 1);
        digits(16, -32768, SPARSE, 0, 0, 0, 0, 0, 0, 0, 0, 0, 0, 0, 0, 0, 0, 0, -1);
        digits(16, 32767, SPARSE, -1, 0, 0, 0, 0, 0, 0, 0, 0, 0, 0, 0, 0, 0, 0, 1);
        digits(16, 21846, SPARSE, 0, -1, 0, -1, 0, -1, 0, -1, 0, -1, 0, -1, 0, -1, 0, 1);
        digits(16, 21845, SPARSE, 1, 0, 1, 0, 1, 0, 1, 0, 1, 0, 1, 0, 1, 0, 1, 0);
    }

    private void registersOfDigits() {
        of(19, "`register`: 0 to 5");
        int[] outermost = {0, 5};
        for (int register : outermost) {
            when("register " + register, o -> {
                o.set(register, 1);
                same(o.digitAt(register, PAIRS, 1), 1);
                same(o.digitAt(5 - register, PAIRS, 1), 0);
            });
        }
        of(19, "Throws `IndexOutOfBoundsException` if there is no such register, or the recoding,"
                + " if there is one, has no such digit");
        int[] none = {-1, 6, Integer.MIN_VALUE, Integer.MAX_VALUE};
        for (int register : none) {
            when("register " + register, o -> refuses(o, INDEX, () -> o.digitAt(register, PAIRS, 0)));
        }
        registers(20, "`register`: 0 to 5", "register", (o, register) -> o.rowsOf(register, PAIRS));
    }

    private void places() {
        int[] evenWidths = {4, 8, 16};
        for (int width : evenWidths) {
            places(width, PAIRS, width);
            places(width, TRIPLES, width / 2);
            places(width, SPARSE, width);
        }
        int[] oddWidths = {5, 15};
        for (int width : oddWidths) {
            places(width, PAIRS, width);
            places(width, SPARSE, width);
        }
    }

    private void places(int width, int recoding, int count) {
        of(19, "`place`: from 0");
        when("the first and the last of recoding " + recoding + " at width " + width, o -> {
            o.setWidth(width);
            same(o.digitAt(0, recoding, 0), 0);
            same(o.digitAt(0, recoding, count - 1), 0);
        });
        of(19, "or the recoding, if there is one, has no such digit");
        int[] none = {-1, count, count + 1, 31, 32, Integer.MIN_VALUE, Integer.MAX_VALUE};
        for (int place : none) {
            when("place " + place + " of recoding " + recoding + " at width " + width, o -> {
                setUp(o, width, -1, -1);
                refuses(o, INDEX, () -> o.digitAt(0, recoding, place));
            });
        }
    }

    private void recodings() {
        of(19, "`recoding`: PAIRS, TRIPLES or SPARSE");
        when("each tells 2 in its own way", o -> {
            o.set(0, 2);
            same(o.digitAt(0, 0, 1), -1);
            same(o.digitAt(0, 1, 1), 1);
            same(o.digitAt(0, 2, 1), 1);
        });
        of(19, NO_RECODING);
        int[] places = {0, -1, 8, 99, Integer.MAX_VALUE};
        for (int place : places) {
            when("recoding -1, place " + place, o -> refuses(o, ARGUMENT, () -> o.digitAt(0, -1, place)));
            when("recoding 3, place " + place, o -> refuses(o, ARGUMENT, () -> o.digitAt(0, 3, place)));
        }
        noRecodings((o, recoding) -> o.digitAt(0, recoding, 0));
        when("at an odd width", o -> {
            o.setWidth(5);
            refuses(o, ARGUMENT, () -> o.digitAt(0, 3, 0));
        });
    }

    private void oddWidths() {
        for (int width = 5; width <= 15; width += 2) {
            int odd = width;
            of(19, ODD_WIDTH);
            oddPlace(odd, 0, STATE);
            oddPlace(odd, odd / 2 - 1, STATE);
            of(19, "(with an odd width TRIPLES counts here as having w / 2 digits, rounded down)");
            oddPlace(odd, odd / 2, INDEX);
            oddPlace(odd, odd / 2 + 1, INDEX);
            oddPlace(odd, -1, INDEX);
            of(20, ODD_WIDTH);
            when("width " + odd, o -> {
                o.setWidth(odd);
                refuses(o, STATE, () -> o.rowsOf(0, TRIPLES));
                same(o.rowsOf(0, PAIRS), 0);
                same(o.rowsOf(0, SPARSE), 0);
            });
        }
    }

    private void oddPlace(int width, int place, Class<? extends RuntimeException> due) {
        when("place " + place + " at width " + width, o -> {
            o.setWidth(width);
            refuses(o, due, () -> o.digitAt(0, TRIPLES, place));
        });
    }

    private void rows() {
        of(20, "Counts the digits of a register that are not 0: the partial rows that have to be added.");
        when("of the first register and of the last", o -> {
            o.set(0, 5);
            o.set(5, 7);
            same(o.rowsOf(0, PAIRS), 4);
            same(o.rowsOf(5, PAIRS), 2);
        });
        of(20, "`recoding`: PAIRS, TRIPLES or SPARSE");
        when("each tells 91 in its own number of rows", o -> {
            o.set(0, 91);
            same(o.rowsOf(0, 0), 6);
            same(o.rowsOf(0, 1), 4);
            same(o.rowsOf(0, 2), 4);
        });
        of(20, NO_RECODING);
        noRecodings((o, recoding) -> o.rowsOf(0, recoding));
        when("at an odd width", o -> {
            o.setWidth(5);
            refuses(o, ARGUMENT, () -> o.rowsOf(0, 3));
        });
        of(20, "Returns the number of digits.");
        rows(16, 0, PAIRS, 0);
        rows(16, 0, TRIPLES, 0);
        rows(16, 0, SPARSE, 0);
        rows(16, 21845, PAIRS, 16);
        rows(16, 21845, TRIPLES, 8);
        rows(16, 21845, SPARSE, 8);
        rows(4, -8, PAIRS, 1);
        rows(4, -8, TRIPLES, 1);
        rows(4, -8, SPARSE, 1);
        rows(16, -1, PAIRS, 1);
        rows(16, -1, TRIPLES, 1);
        rows(16, -1, SPARSE, 1);
    }

    private void rows(int width, int value, int recoding, int due) {
        when(value + " at width " + width + ", recoding " + recoding, o -> {
            setUp(o, width, value, 0);
            same(o.rowsOf(0, recoding), due);
        });
    }
}
