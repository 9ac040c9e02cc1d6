import java.util.List;

/** Boundary cases of programs: promises 8 to 12 and 30. */
final class ProgramBoundaries extends Boundaries {
    private static final String NOT_VALID = "Throws `IllegalStateException` if the program is not valid";
    private static final String SIXTY = "A=B;".repeat(14) + "A=-B";

    @Override
    void addAll() {
        lengths();
        clearing();
        numbersOfSteps();
        stepsOfAProgram();
        charactersOfSteps();
        charactersOfNumbers();
        numbers();
        numbersMisspelt();
        errors();
        results();
        firstOverflows();
        overflowingSteps();
        carryingOut();
        notValid(11, o -> o.firstOverflow());
        notValid(12, o -> o.carryOut());
        overflowCounts();
    }

    private void error(String program, int due) {
        when("\"" + program + "\" has its error at " + due, o -> {
            Checks.type(o, program);
            same(o.programError(), due);
            same(o.clearProgram(), program.length());
        });
    }

    private void valid(String program) {
        when("\"" + program + "\" is valid", o -> {
            Checks.type(o, program);
            same(o.programError(), NONE);
            same(o.firstOverflow(), NONE);
            o.carryOut();
        });
    }

    private static void typeMany(BoothOtters otters, int count) {
        Checks.type(otters, "A".repeat(count));
    }

    private void lengths() {
        of("Terms", "The program is a text of at most 60 characters, empty at first.");
        when("empty at first", o -> same(o.clearProgram(), 0));
        when("60 characters", o -> {
            typeMany(o, 60);
            same(o.clearProgram(), 60);
        });
        when("a valid one of 60 characters is carried out", o -> {
            o.set(1, 7);
            Checks.type(o, SIXTY);
            same(o.firstOverflow(), NONE);
            same(o.carryOut(), -7);
        });
        of(8, "`character`: any character");
        int[] signs = {0, 1, 127, 128, 255, 256, 'A' + 256, 32768, 65535};
        for (int sign : signs) {
            when("character number " + sign, o -> {
                same(o.type((char) sign), 1);
                same(o.programError(), 0);
            });
        }
        of(8, "Returns the length of the program afterwards.");
        when("the first", o -> same(o.type('A'), 1));
        when("the 60th", o -> {
            typeMany(o, 59);
            same(o.type('A'), 60);
        });
        of(8, "Throws `IllegalStateException` if the program has 60 characters");
        when("the 61st", o -> {
            typeMany(o, 60);
            refuses(o, STATE, () -> o.type('A'));
            same(o.clearProgram(), 60);
        });
        when("the 61st, behind a valid program", o -> {
            Checks.type(o, SIXTY);
            refuses(o, STATE, () -> o.type(';'));
            same(o.programError(), NONE);
        });
        when("none is refused after clearing", o -> {
            typeMany(o, 60);
            o.clearProgram();
            same(o.type('A'), 1);
        });
    }

    private void clearing() {
        of(9, "Empties the program.");
        when("an empty one", o -> {
            o.clearProgram();
            same(o.programError(), 0);
        });
        when("nothing of it is left", o -> {
            Checks.type(o, "A=#12");
            o.clearProgram();
            Checks.type(o, "B=#3");
            same(o.programError(), NONE);
            same(o.carryOut(), 3);
            same(o.valueOf(0), 0);
        });
        of(9, "Returns the length that it had.");
        when("0 of an empty one", o -> same(o.clearProgram(), 0));
        when("0 of one cleared before", o -> {
            typeMany(o, 60);
            same(o.clearProgram(), 60);
            same(o.clearProgram(), 0);
        });
        when("1 of the shortest", o -> {
            o.type('A');
            same(o.clearProgram(), 1);
        });
    }

    private void numbersOfSteps() {
        of("Terms", "A valid program consists of one or more steps with \";\" between two of them.");
        valid("A=B");
        valid("A=B;C=D");
        valid("A=B;".repeat(14) + "A=B");
        error(";", 0);
        error(";A=B", 0);
        error("A=B;", 4);
        error("A=B;;", 4);
        error("A=B;;C=D", 4);
        error("A=B;C=D;", 8);
        error("A=B,C=D", 3);
        error("A=BC=D", 3);
        error("A=B C=D", 3);
    }

    private void stepsOfAProgram() {
        of("Terms", "A step is a register, \"=\", and one of these: a register; \"-\" and a register;");
        valid("A=A");
        valid("F=F");
        valid("A=-A");
        valid("F=-F");
        of("Terms", "two registers with \"+\", \"-\" or \"*\" between them;");
        valid("A=A+A");
        valid("F=F-F");
        valid("A=F*B");
        valid("B=A+F;C=A-F;D=A*F");
    }

    /** Every character there is, behind each kind of beginning. */
    private void charactersOfSteps() {
        of("Terms", "the first character that no valid program (of any length) can have at that place");
        follow("", "ABCDEF");
        follow("A", "=");
        follow("A=", "ABCDEF-#");
        follow("A=B", "+-*;");
        follow("A=B+", "ABCDEF");
        follow("A=B-", "ABCDEF");
        follow("A=B*", "ABCDEF");
        follow("A=B+C", ";");
        follow("A=B-C", ";");
        follow("A=B*C", ";");
        follow("A=-", "ABCDEF");
        follow("A=-B", ";");
        follow("A=B;", "ABCDEF");
        follow("A=B;C", "=");
    }

    private void charactersOfNumbers() {
        of("Terms", "the first character that no valid program (of any length) can have at that place");
        follow("A=#", "-0123456789");
        follow("A=#-", "123456789");
        follow("A=#0", ";");
        follow("A=#1", "0123456789;");
        follow("A=#-1", "0123456789;");
        follow("A=#9", "0123456789;");
        follow("A=#999", "0123456789;");
        follow("A=#3275", "0123456789;");
        follow("A=#3276", "01234567;");
        follow("A=#3277", ";");
        follow("A=#9999", ";");
        follow("A=#10000", ";");
        follow("A=#32767", ";");
        follow("A=#-3275", "0123456789;");
        follow("A=#-3276", "012345678;");
        follow("A=#-3277", ";");
        follow("A=#-9999", ";");
        follow("A=#-10000", ";");
        follow("A=#-32768", ";");
    }

    private void follow(String before, String due) {
        when("behind \"" + before + "\" go on just the characters " + due, o -> {
            for (int sign = 0; sign <= Character.MAX_VALUE; sign++) {
                BoothOtters one = new BoothOtters();
                Checks.type(one, before + (char) sign);
                boolean goesOn = one.programError() != before.length();
                if (goesOn != due.indexOf(sign) >= 0) {
                    throw new AssertionError("is wrong at the character with the number " + sign);
                }
            }
        });
    }

    private void numbers() {
        of("Terms", "or \"#\" and a number from -32768 to 32767, without leading zeros, and without \"-\" for 0.");
        String[] numbers = {"0", "1", "9", "10", "-1", "-9", "-10", "99", "9999", "-9999", "10000", "-10000",
            "29999", "32759", "32760", "32766", "32767", "-29999", "-32760", "-32767", "-32768"};
        for (String number : numbers) {
            number(number);
        }
        String[] tooFar = {"32768", "32769", "-32769", "32770", "-32770", "32800", "33000", "40000", "-40000", "99999",
            "-99999", "100000", "-100000", "327670", "-327680"};
        for (String number : tooFar) {
            error("A=#" + number, 2 + number.length());
        }
        when("the first digit too many is the error, not a later one", o -> {
            Checks.type(o, "A=#4294967296");
            same(o.programError(), 7);
        });
        when("60 characters of a number", o -> {
            Checks.type(o, "A=#" + "9".repeat(57));
            same(o.programError(), 7);
        });
    }

    private void numbersMisspelt() {
        of("Terms", "or \"#\" and a number from -32768 to 32767, without leading zeros, and without \"-\" for 0.");
        error("A=#00", 4);
        error("A=#01", 4);
        error("A=#0;B=#00", 9);
        error("A=#-0", 4);
        error("A=#-01", 4);
        error("A=#--1", 4);
        error("A=#+1", 3);
        error("A=#1-", 4);
        error("A=#1+", 4);
        error("A=#1#", 4);
        error("A=-#1", 3);
        error("A=B+#1", 4);
        valid("A=#0;B=#1");
        valid("A=#-1;B=#0");
    }

    private void number(String number) {
        when("number " + number, o -> {
            o.setWidth(16);
            same(carryOut(o, "A=#" + number), Integer.parseInt(number));
            same(o.overflows(), 0);
        });
    }

    private void errors() {
        of("Terms", "The first error of a program is the index of the first character"
                + " that no valid program (of any length) can have at that place after the characters before it;");
        error("G", 0);
        error("GGG", 0);
        error("A=B=C=D", 3);
        error("A=B;C=D;E=G", 10);
        when("the last character of a full program", o -> {
            Checks.type(o, "A=B;".repeat(14) + "A=BB");
            same(o.programError(), 59);
        });
        of("Terms", "if there is none, but the program ends too early (an empty program does),"
                + " it is the length of the program.");
        error("", 0);
        error("A", 1);
        error("A=", 2);
        error("A=-", 3);
        error("A=#", 3);
        error("A=#-", 4);
        error("A=B+", 4);
        error("A=B-", 4);
        error("A=B*", 4);
        error("A=B;", 4);
        error("A=B;C", 5);
        error("A=B;C=", 6);
        error("A=B;".repeat(15), 60);
        error("A=#100;".repeat(8) + "A=B+", 60);
        error("A=#100;".repeat(8) + "A=#-", 60);
        of(10, "Returns its index; NONE if the program is valid.");
        error("", 0);
        valid("A=B");
        when("NONE becomes an index by one character more", o -> {
            Checks.type(o, "A=B");
            same(o.programError(), NONE);
            o.type(';');
            same(o.programError(), 4);
        });
        when("an index goes by clearing and typing", o -> {
            Checks.type(o, "A=G");
            same(o.programError(), 2);
            o.clearProgram();
            same(o.programError(), 0);
            Checks.type(o, "A=F");
            same(o.programError(), NONE);
        });
    }

    private void results() {
        of("Terms", "The result is put into the register, wrapped;"
                + " a result that is not a value of the width counts as an overflow.");
        result(8, -127, 0, "C=-A", 127, 0);
        result(8, -128, 0, "C=-A", -128, 1);
        result(8, 100, 27, "C=A+B", 127, 0);
        result(8, 100, 28, "C=A+B", -128, 1);
        result(8, 127, 127, "C=A+B", -2, 1);
        result(8, -100, -28, "C=A+B", -128, 0);
        result(8, -100, -29, "C=A+B", 127, 1);
        result(8, -100, 28, "C=A-B", -128, 0);
        result(8, -100, 29, "C=A-B", 127, 1);
        result(8, 127, -128, "C=A-B", -1, 1);
        result(8, 0, -128, "C=A-B", -128, 1);
        result(8, -1, -128, "C=A-B", 127, 0);
        result(8, 16, -8, "C=A*B", -128, 0);
        result(8, 16, 8, "C=A*B", -128, 1);
        result(8, -43, 3, "C=A*B", 127, 1);
        result(8, -128, -1, "C=A*B", -128, 1);
        result(8, 0, 0, "C=#127", 127, 0);
        result(8, 0, 0, "C=#128", -128, 1);
        result(8, 0, 0, "C=#-128", -128, 0);
        result(8, 0, 0, "C=#-129", 127, 1);
        result(4, 7, -8, "C=A", 7, 0);
        result(4, 7, 1, "C=A+B", -8, 1);
        result(4, 0, 0, "C=#8", -8, 1);
        result(16, 32767, 1, "C=A+B", -32768, 1);
        result(16, -32768, 1, "C=A-B", 32767, 1);
        result(16, -32768, -32768, "C=A*B", 0, 1);
        result(16, 32767, 32767, "C=A*B", 1, 1);
        result(16, -32768, 0, "C=-A", -32768, 1);
        result(16, -32768, 0, "C=A", -32768, 0);
        when("a register put into itself", o -> {
            o.set(0, 100);
            same(carryOut(o, "A=A+A"), -56);
            same(carryOut(o, "A=-A"), 56);
        });
    }

    private void result(int width, int a, int b, String program, int due, int overflows) {
        when(program + " of " + a + " and " + b + " at width " + width, o -> {
            setUp(o, width, a, b);
            same(carryOut(o, program), due);
            same(o.valueOf(2), due);
            same(o.overflows(), overflows);
        });
    }

    private void firstOverflows() {
        of(11, "Finds the first step of the program that would count as an overflow, if the steps were done now,"
                + " one after the other.");
        overflow("A=#127;B=A;C=-B", NONE);
        overflow("A=#127;B=#1;C=A+B", 2);
        overflow("A=#64;A=A+A;A=A+A", 1);
        overflow("A=#128;B=#128", 0);
        overflow("A=#300;A=A+A", 0);
        overflow("A=#-128;A=-A;A=-A", 1);
        when("by the values of now", o -> {
            Checks.type(o, "C=A+B");
            same(o.firstOverflow(), NONE);
            o.set(0, 127);
            o.set(1, 1);
            same(o.firstOverflow(), 0);
        });
        when("by the width of now", o -> {
            Checks.type(o, "A=#8");
            same(o.firstOverflow(), NONE);
            o.setWidth(4);
            same(o.firstOverflow(), 0);
        });
        when("the same when asked again", o -> {
            Checks.type(o, "A=A+B;A=A+B");
            o.set(1, 64);
            same(o.firstOverflow(), 1);
            same(o.firstOverflow(), 1);
            same(o.valueOf(0), 0);
        });
        when("none any more, when the values have changed", o -> {
            Checks.type(o, "C=A+B;D=A-B");
            setUp(o, 8, 127, 1);
            same(o.firstOverflow(), 0);
            o.set(1, -1);
            same(o.firstOverflow(), 1);
            o.set(0, 0);
            same(o.firstOverflow(), NONE);
        });
        when("none after a program that did overflow", o -> {
            carryOut(o, "A=#1;B=#200");
            o.clearProgram();
            Checks.type(o, "A=#1;B=#100");
            same(o.firstOverflow(), NONE);
        });
        when("it changes nothing, and records nothing", o -> {
            begin(o, 8, 5, 3, PAIRS);
            o.undo();
            Checks.type(o, "A=#300;B=#300");
            List<Long> before = Checks.allThatShows(o);
            same(o.firstOverflow(), 0);
            holds(Checks.allThatShows(o).equals(before));
        });
    }

    private void overflow(String program, int due) {
        when("that of " + program + " is " + due, o -> {
            Checks.type(o, program);
            same(o.firstOverflow(), due);
        });
    }

    private void overflowingSteps() {
        of(11, "Returns the number of the step, from 0; NONE if none would.");
        overflow("A=#128", 0);
        overflow("A=#127", NONE);
        overflow("A=#-129", 0);
        overflow("A=#-128", NONE);
        overflow("A=B;".repeat(13) + "A=#128", 13);
        overflow("A=B;".repeat(14) + "A=-B", NONE);
        when("the last of the most steps", o -> {
            o.set(1, -128);
            Checks.type(o, "A=A;".repeat(14) + "A=-B");
            same(o.firstOverflow(), 14);
        });
    }

    private void notValid(int promise, ProgramCall call) {
        of(promise, NOT_VALID);
        String[] programs = {"", "A", "A=", "A=B+", "A=#", "A=#-", "A=B;", "G", ";A=B", "A=#00", "A=#-0", "A=#32768",
            "A=#-32769", "A=B+C+D", "A=#9;C=G", "A=#9;C=", SIXTY.substring(0, 59)};
        for (String program : programs) {
            when("\"" + program + "\"", o -> {
                Checks.type(o, program);
                refuses(o, STATE, () -> call.answer(o));
                same(o.valueOf(0), 0);
                same(o.clearProgram(), program.length());
            });
        }
    }

    private interface ProgramCall {
        long answer(BoothOtters otters);
    }

    private void carryingOut() {
        of(12, "Does all steps of the program, one after the other. The program stays as it is. This is one action.");
        when("the program stays", o -> {
            same(carryOut(o, "A=A+B;B=#1"), 1);
            same(o.valueOf(0), 0);
            same(o.carryOut(), 1);
            same(o.valueOf(0), 1);
            same(o.clearProgram(), 10);
        });
        when("one action, though of 12 steps", o -> {
            carryOut(o, "A=#1;".repeat(11) + "A=#2");
            same(o.recordedStates(), 1);
            same(o.undo(), 0);
            same(o.valueOf(0), 0);
        });
        when("a later step reads what an earlier one put", o -> same(carryOut(o, "A=#200;B=A"), -56));
        when("a step's number is no part of the next", o -> {
            o.set(1, 9);
            same(carryOut(o, "A=#-5;C=B"), 9);
            same(carryOut(o, "A=#-5;C=#4"), 4);
        });
        when("a step's operator is no part of the next", o -> {
            o.set(1, 9);
            same(carryOut(o, "A=B*B;C=B"), 9);
            same(carryOut(o, "A=-B;C=B"), 9);
            same(carryOut(o, "A=B+B;C=-B"), -9);
        });
        of(12, "Returns the result of the last step, wrapped.");
        when("the last of two", o -> same(carryOut(o, "A=#5;B=#6"), 6));
        when("one above the greatest value", o -> same(carryOut(o, "A=#128"), -128));
        when("one below the least value", o -> same(carryOut(o, "A=#-129"), 127));
        when("that of the one step", o -> same(carryOut(o, "A=#0"), 0));
    }

    private void overflowCounts() {
        of(30, "Returns the number of overflows so far.");
        when("none", o -> same(o.overflows(), 0));
        when("each step of a program counts", o -> {
            carryOut(o, "A=#128;B=#-129;C=#127;D=#256");
            same(o.overflows(), 3);
        });
        when("each store counts", o -> {
            begin(o, 8, 16, 8, PAIRS);
            o.finish();
            o.store(2);
            o.store(3);
            same(o.overflows(), 2);
        });
        when("wrapping by setWidth does not count", o -> {
            o.set(0, 100);
            o.setWidth(4);
            same(o.overflows(), 0);
        });
        when("a value that set() refuses does not count", o -> {
            refuses(o, ARGUMENT, () -> o.set(0, 128));
            same(o.overflows(), 0);
        });
        when("steps that would overflow do not count", o -> {
            Checks.type(o, "A=#128");
            o.firstOverflow();
            same(o.overflows(), 0);
        });
        when("a product told at once does not count", o -> {
            setUp(o, 8, -128, -128);
            o.productByRows(0, 1, PAIRS);
            o.productByBits(0, 1);
            o.fits(0, 1);
            same(o.overflows(), 0);
        });
        when("a multiplication counts at store, not before", o -> {
            begin(o, 8, -128, -128, TRIPLES);
            o.finish();
            same(o.overflows(), 0);
            o.store(0);
            same(o.overflows(), 1);
        });
    }
}
