/** Promises 24 to 33: copies, sheets and swaps. */
final class SetSentences {
    /** Sheet 0 with bytes 1 to 5, sheet 1 with three bytes 0; sheets 2 and 3 are missing. */
    private static final String ROWS = """
        sheet(0, 5)
        lay(0, 0, 1)
        lay(0, 1, 2)
        lay(0, 2, 3)
        lay(0, 3, 4)
        lay(0, 4, 5)
        sheet(1, 3)
        """;

    private SetSentences() {
    }

    static void all() {
        stock();
        copies();
        sheet();
        sheetRefused();
        lay();
        layRefused();
        tear();
        copy();
        copyTakenAhead();
        copyRefused();
        copyBeyond();
        fill();
        fillRefused();
        lacks();
        swaps();
        swapsAtMost();
        swapGets();
        swapGives();
        swapsBad();
        whole();
        wholeFewest();
        wholeLeastBits();
        wholeNone();
    }

    /** The society has these copies, and one of each further number; all others have none. */
    static String society(String copies) {
        String[] told = copies.split(" ");
        StringBuilder run = new StringBuilder();
        for (int number = 0; number < 12; number++) {
            run.append("stock(0, " + number + ", " + (number < told.length ? told[number] : "1") + ")\n");
        }
        return run.toString();
    }

    private static void stock() {
        Sentence.says(24, "A HOLDER has c copies of a NUMBER: what it had.", """
            stock(5, 11, 9) = 0
            stock(5, 11, 3) = 9
            stock(5, 11, 0) = 3
            stock(5, 11, 0) = 0
            stock(0, 0, 7) = 0
            copies(0, 0) = 7
            copies(5, 11) = 0
            """);
        Sentence.says(24, "HOLDERS 0 (the society) to 5 (partners)", """
            stock(-1, 0, 1) = BAD
            stock(6, 0, 1) = BAD
            stock(MIN, 0, 1) = BAD
            stock(MAX, 0, 1) = BAD
            stock(0, 0, 1) = 0
            stock(5, 0, 1) = 0
            """);
        Sentence.says(24, "have 0 to 9 copies of each", """
            stock(1, 2, 5)
            stock(1, 2, -1) = BAD
            stock(1, 2, 10) = BAD
            stock(1, 2, MIN) = BAD
            stock(1, 2, MAX) = BAD
            stock(1, 2, 9) = 5
            stock(1, 2, 0) = 9
            """);
        Sentence.says(24, "of NUMBERS 0 .. 11", """
            stock(0, -1, 1) = BAD
            stock(0, 12, 1) = BAD
            stock(0, MIN, 1) = BAD
            stock(0, MAX, 1) = BAD
            stock(0, 0, 1) = 0
            stock(0, 11, 1) = 0
            """);
        Sentence.says(24, "BAD.", """
            stock(6, 12, 10) = BAD
            stock(1, -1, 1) = BAD           # the number behind the last of holder 0
            stock(0, 12, 1) = BAD           # the number ahead of the first of holder 1
            """);
    }

    private static void copies() {
        StringBuilder run = new StringBuilder();
        for (int holder = 0; holder < 6; holder++) {
            for (int number = 0; number < 12; number++) {
                run.append("copies(" + holder + ", " + number + ") = 0\n");
                run.append("stock(" + holder + ", " + number + ", " + (holder + number) % 10 + ") = 0\n");
            }
        }
        for (int holder = 0; holder < 6; holder++) {
            for (int number = 0; number < 12; number++) {
                run.append("copies(" + holder + ", " + number + ") = " + (holder + number) % 10 + "\n");
            }
        }
        Sentence.says(25, "Copies of a NUMBER with a HOLDER.", run.toString());
        Sentence.says(25, "BAD.", """
            copies(-1, 0) = BAD
            copies(6, 0) = BAD
            copies(MIN, 0) = BAD
            copies(MAX, 0) = BAD
            copies(0, -1) = BAD
            copies(0, 12) = BAD
            copies(1, -1) = BAD
            copies(0, MIN) = BAD
            copies(0, MAX) = BAD
            """);
    }

    private static void sheet() {
        Sentence.says(26, "A SHEET is there with n bytes 0: n.", """
            sheet(0, 3) = 3
            lay(0, 0, 5) = 1000
            lay(0, 2, 7) = 1000
            lay(0, 3, 9) = BEYOND
            sheet(0, 4) = 4                 # anew: the old bytes are gone
            lay(0, 0, 5) = 1000
            lay(0, 2, 7) = 1000
            lay(0, 3, 9) = 1000
            sheet(0, 1) = 1
            sheet(0, 4) = 4
            lay(0, 3, 9) = 1000
            """);
        Sentence.says(26, "rows of 0 to 12 bytes", """
            sheet(3, 0) = 0
            lay(3, 0, 1) = BEYOND           # it is there, but without a byte
            tear(3) = 1
            sheet(3, 12) = 12
            lay(3, 11, 77) = 1000
            lay(3, 12, 77) = BEYOND
            """);
        Sentence.says(26, "or missing (at first).", """
            tear(0) = NOTHING
            tear(1) = NOTHING
            lay(2, 0, 0) = NOTHING
            fill(0, 3) = NOTHING
            """);
    }

    private static void sheetRefused() {
        Sentence.says(26, "BAD: n above 12", ROWS, """
            sheet(0, 13) = BAD
            sheet(0, MAX) = BAD
            sheet(2, 13) = BAD
            tear(2) = NOTHING
            lay(0, 4, 0) = 1005
            sheet(0, 12) = 12
            """);
        Sentence.says(26, "SHEETS 0 .. 3", """
            sheet(-1, 1) = BAD
            sheet(4, 1) = BAD
            sheet(MIN, 1) = BAD
            sheet(MAX, 1) = BAD
            sheet(0, 1) = 1
            sheet(3, 1) = 1
            """);
        Sentence.says(26, "SIZE.", ROWS, """
            sheet(0, -1) = SIZE
            sheet(0, MIN) = SIZE
            sheet(2, -1) = SIZE
            tear(2) = NOTHING
            sheet(4, -1) = BAD              # ahead of SIZE
            sheet(-1, MIN) = BAD
            sheet(0, 0) = 0
            """);
        Sentence.says(26, "5 SIZE (fewer than none)", """
            findings(5) = 0
            sheet(0, -1) = -3
            finding() = 5
            sheet(0, MIN) = -3
            findings(5) = 2
            """);
    }

    private static void lay() {
        Sentence.says(27, "Byte i of a SHEET is v, cut to a byte: what it was, and 1000 more.", """
            sheet(1, 3)
            lay(1, 2, 127) = 1000
            lay(1, 2, 128) = 1127
            lay(1, 2, 255) = 872            # 128 is -128 as a byte
            lay(1, 2, 256) = 999
            lay(1, 2, -128) = 1000
            lay(1, 2, -129) = 872
            lay(1, 2, MAX) = 1127
            lay(1, 2, MIN) = 999
            lay(1, 2, 511) = 1000
            lay(1, 2, 5) = 999
            lay(1, 0, 0) = 1000
            lay(1, 1, 0) = 1000
            lay(1, 2, 0) = 1005
            """);
    }

    private static void layRefused() {
        Sentence.says(27, "BAD", ROWS, """
            lay(-1, 0, 1) = BAD
            lay(4, 0, 1) = BAD
            lay(MIN, 0, 1) = BAD
            lay(MAX, 0, 1) = BAD
            lay(4, 99, 1) = BAD             # ahead of BEYOND
            """);
        Sentence.says(27, "NOTHING", ROWS, """
            lay(2, 0, 1) = NOTHING
            lay(0, -1, 1) = BEYOND
            lay(2, 99, 1) = NOTHING         # ahead of BEYOND
            tear(0)
            lay(0, 0, 1) = NOTHING
            """);
        Sentence.says(27, "BEYOND.", ROWS, """
            lay(0, 5, 1) = BEYOND
            lay(0, -1, 1) = BEYOND
            lay(0, 11, 1) = BEYOND
            lay(0, 12, 1) = BEYOND
            lay(0, MIN, 1) = BEYOND
            lay(0, MAX, 1) = BEYOND
            lay(1, 3, 1) = BEYOND
            lay(0, 4, 1) = 1005
            lay(0, 0, 1) = 1001
            """);
        Sentence.says(27, "2 BEYOND (a place that there is not)", ROWS, """
            findings(2) = 0
            lay(0, 5, 1) = -3
            finding() = 2
            copy(0, 0, 1, 0, 4) = -3
            findings(2) = 2
            """);
    }

    private static void tear() {
        Sentence.says(28, "A SHEET is missing: 1.", ROWS, """
            tear(0) = 1
            lay(0, 0, 0) = NOTHING
            lay(1, 0, 0) = 1000             # another one stays
            sheet(0, 5) = 5
            lay(0, 0, 0) = 1000
            """);
        Sentence.says(28, "BAD", ROWS, """
            tear(-1) = BAD
            tear(4) = BAD
            tear(MIN) = BAD
            tear(MAX) = BAD
            """);
        Sentence.says(28, "NOTHING.", ROWS, """
            tear(2) = NOTHING
            tear(0) = 1
            tear(0) = NOTHING
            sheet(3, 0)
            tear(3) = 1                     # without bytes, but there
            tear(3) = NOTHING
            """);
    }

    private static void copy() {
        Sentence.says(29, "n bytes of a SHEET, from one on, come to those of another one", ROWS, """
            copy(0, 3, 1, 1, 2) = 1
            lay(1, 0, 0) = 1000
            lay(1, 1, 0) = 1004
            lay(1, 2, 0) = 1005
            lay(0, 2, 0) = 1003
            lay(0, 3, 0) = 1004             # they stay where they were, too
            lay(0, 4, 0) = 1005
            copy(0, 0, 1, 0, 3) = 1
            lay(1, 0, 0) = 1001
            lay(1, 1, 0) = 1002
            lay(1, 2, 0) = 1000
            """);
        Sentence.says(29, "n bytes", ROWS, """
            copy(0, 0, 1, 0, 0) = 1         # none
            copy(0, 5, 1, 3, 0) = 1         # none, at the end
            lay(1, 0, 0) = 1000
            sheet(2, 0)
            copy(2, 0, 1, 0, 0) = 1
            copy(1, 3, 2, 0, 0) = 1
            copy(2, 0, 2, 0, 0) = 1
            sheet(3, 12)
            lay(3, 11, -5)
            copy(3, 0, 3, 0, 12) = 1
            lay(3, 11, 0) = 995
            """);
    }

    private static void copyTakenAhead() {
        Sentence.says(29, "(perhaps itself) from one on, as if taken ahead: 1.", ROWS, """
            copy(0, 0, 0, 1, 4) = 1
            lay(0, 0, 0) = 1001
            lay(0, 1, 0) = 1001
            lay(0, 2, 0) = 1002
            lay(0, 3, 0) = 1003
            lay(0, 4, 0) = 1004
            """);
        Sentence.says(29, "as if taken ahead", ROWS, """
            copy(0, 1, 0, 0, 4) = 1
            lay(0, 0, 0) = 1002
            lay(0, 1, 0) = 1003
            lay(0, 2, 0) = 1004
            lay(0, 3, 0) = 1005
            lay(0, 4, 0) = 1005
            """);
    }

    private static void copyRefused() {
        Sentence.says(29, "BAD", ROWS, """
            copy(-1, 0, 0, 0, 1) = BAD
            copy(4, 0, 0, 0, 1) = BAD
            copy(MIN, 0, 0, 0, 1) = BAD
            copy(MAX, 0, 0, 0, 1) = BAD
            copy(0, 0, -1, 0, 1) = BAD
            copy(0, 0, 4, 0, 1) = BAD
            copy(0, 0, MIN, 0, 1) = BAD
            copy(0, 0, MAX, 0, 1) = BAD
            copy(2, 0, 4, 0, 1) = BAD       # ahead of NOTHING
            copy(4, 0, 2, 0, 1) = BAD
            copy(0, 9, 4, 9, 9) = BAD       # ahead of BEYOND
            """);
        Sentence.says(29, "NOTHING: either", ROWS, """
            copy(2, 0, 0, 0, 1) = NOTHING
            copy(0, 6, 1, 0, 1) = BEYOND
            copy(0, 0, 2, 0, 1) = NOTHING
            copy(2, 0, 3, 0, 0) = NOTHING
            copy(2, 0, 2, 0, 0) = NOTHING
            copy(2, 0, 0, 0, -1) = NOTHING  # ahead of BEYOND
            copy(0, 9, 2, 9, 9) = NOTHING
            """);
    }

    private static void copyBeyond() {
        Sentence.says(29, "BEYOND: not so many there", ROWS, """
            copy(0, 4, 1, 0, 2) = BEYOND
            copy(0, 0, 1, 2, 2) = BEYOND
            copy(0, 0, 1, 0, 4) = BEYOND    # enough here, too few there
            copy(1, 0, 0, 0, 4) = BEYOND    # and the other way round
            copy(0, 0, 0, 0, 6) = BEYOND
            copy(0, 0, 1, 0, MAX) = BEYOND
            copy(0, 5, 1, 0, 1) = BEYOND
            copy(0, 0, 1, 3, 1) = BEYOND
            copy(0, 3, 1, 1, 2) = 1
            """);
        Sentence.says(29, "(a place", ROWS, """
            copy(0, -1, 1, 0, 1) = BEYOND
            copy(0, 0, 1, -1, 1) = BEYOND
            copy(0, -1, 1, 0, 0) = BEYOND
            copy(0, 0, 1, -1, 0) = BEYOND
            copy(0, 6, 1, 0, 0) = BEYOND
            copy(0, 0, 1, 4, 0) = BEYOND
            copy(0, MIN, 1, 0, 1) = BEYOND
            copy(0, 0, 1, MIN, 1) = BEYOND
            copy(0, MAX, 1, 0, 1) = BEYOND  # the sum would wrap around
            copy(0, 0, 1, MAX, 1) = BEYOND
            copy(0, MAX, 1, 0, 0) = BEYOND
            copy(0, 1, 1, 0, MAX) = BEYOND
            copy(0, 0, 1, 1, MAX) = BEYOND
            copy(0, MAX, 0, MAX, MAX) = BEYOND
            copy(0, MIN, 0, MIN, MIN) = BEYOND
            """);
        Sentence.says(29, "n below 0, too).", ROWS, """
            copy(0, 0, 1, 0, -1) = BEYOND
            copy(0, 1, 1, 1, -1) = BEYOND
            copy(0, 5, 1, 3, -3) = BEYOND
            copy(0, 0, 1, 0, MIN) = BEYOND
            copy(0, 4, 1, 2, MIN) = BEYOND
            """);
    }

    private static void fill() {
        Sentence.says(30, "A HOLDER has of NUMBER i as many copies as byte i of a SHEET tells", ROWS, """
            fill(2, 0) = 15
            copies(2, 0) = 1
            copies(2, 4) = 5
            copies(0, 0) = 0
            sheet(0, 12)
            lay(0, 11, 8)
            fill(5, 0) = 8
            copies(5, 11) = 8
            fill(0, 0) = 8
            copies(0, 11) = 8
            """);
        Sentence.says(30, "(below 0: 0", """
            sheet(3, 4)
            lay(3, 0, -1)
            lay(3, 1, -128)
            lay(3, 2, 255)
            lay(3, 3, 0)
            stock(1, 0, 3)
            stock(1, 1, 3)
            stock(1, 2, 3)
            stock(1, 3, 3)
            fill(1, 3) = 0
            copies(1, 0) = 0
            copies(1, 1) = 0
            copies(1, 2) = 0
            copies(1, 3) = 0
            """);
        Sentence.says(30, "above 9: 9;", """
            sheet(3, 3)
            lay(3, 0, 9)
            lay(3, 1, 10)
            lay(3, 2, 127)
            fill(1, 3) = 27
            copies(1, 0) = 9
            copies(1, 1) = 9
            copies(1, 2) = 9
            lay(3, 0, 0) = 1009
            lay(3, 1, 0) = 1010             # the SHEET stays as it is
            """);
        Sentence.says(30, "NUMBERS for which it has no byte stay)", ROWS, """
            stock(4, 4, 7)
            stock(4, 5, 6)
            stock(4, 11, 9)
            fill(4, 1) = 22                 # three bytes
            fill(4, 0) = 30                 # five bytes
            copies(4, 4) = 5
            copies(4, 5) = 6
            sheet(2, 0)
            fill(4, 2) = 30                 # no byte
            copies(4, 11) = 9
            """);
        Sentence.says(30, "NUMBERS for which it has no byte", """
            sheet(0, 12)
            lay(0, 1, 7)
            lay(0, 2, 8)
            sheet(0, 2)                     # anew, and shorter
            stock(3, 0, 4)
            stock(3, 1, 5)
            stock(3, 2, 6)
            fill(3, 0) = 6
            copies(3, 2) = 6
            """);
        Sentence.says(30, "how many copies it has in all.", """
            sheet(0, 12)
            stock(1, 0, 9)
            stock(3, 0, 5)
            fill(2, 0) = 0                  # its own alone
            fill(1, 0) = 0
            fill(3, 0) = 0
            """);
    }

    private static void fillRefused() {
        Sentence.says(30, "BAD", ROWS, """
            fill(-1, 0) = BAD
            fill(6, 0) = BAD
            fill(MIN, 0) = BAD
            fill(MAX, 0) = BAD
            fill(0, -1) = BAD
            fill(0, 4) = BAD
            fill(0, MIN) = BAD
            fill(0, MAX) = BAD
            fill(6, 2) = BAD                # ahead of NOTHING
            """);
        Sentence.says(30, "NOTHING.", ROWS, """
            stock(0, 0, 7)
            fill(0, 2) = NOTHING
            tear(0)
            fill(0, 0) = NOTHING
            copies(0, 0) = 7
            """);
    }

    private static void lacks() {
        Sentence.says(31, "NUMBERS that the society LACKS (bits).", """
            lacks() = 4095
            stock(0, 0, 1)
            lacks() = 4094
            stock(0, 11, 9)
            lacks() = 2046
            stock(0, 0, 0)
            lacks() = 2047
            stock(1, 5, 9)                  # with a partner
            lacks() = 2047
            """);
        Sentence.says(31, "The society LACKS those of which it has none", society("1"), """
            lacks() = 0
            stock(0, 6, 0)
            lacks() = 64
            stock(0, 6, 1)
            lacks() = 0
            """);
    }

    private static void swaps() {
        Sentence.says(32, "The most SWAPS that can be done together with a set of partners", society("0 0 2 2"), """
            stock(1, 0, 2)
            stock(2, 1, 2)
            stock(2, 3, 1)
            swaps(2) = 1
            swaps(4) = 1
            swaps(6) = 2                    # number 2 goes to partner 2, which takes nothing else
            swaps(62) = 2
            swaps(56) = 0
            asked() = 0
            """);
        Sentence.says(32, "The most SWAPS", society("0 0 0 9"), """
            stock(1, 0, 2)
            stock(1, 1, 2)
            stock(1, 2, 2)
            stock(2, 0, 2)
            stock(3, 0, 2)
            swaps(2) = 1
            swaps(6) = 2                    # partner 2 gives number 0, partner 1 another one
            swaps(14) = 2
            stock(3, 0, 0)
            stock(3, 2, 2)
            swaps(14) = 3
            """);
        Sentence.says(32, "those that are told stay as they are", society("0 2"), """
            stock(1, 0, 2)
            swaps(2) = 1
            swaps(2) = 1
            lacks() = 1
            copies(0, 0) = 0
            copies(0, 1) = 2
            copies(1, 0) = 2
            copies(1, 1) = 0
            """);
        Sentence.says(32, "more than one copy is SPARE, for everyone.", society("0 1"), """
            stock(1, 0, 2)
            swaps(2) = 0                    # one copy with the society is not SPARE
            stock(0, 1, 2)
            swaps(2) = 1
            stock(1, 0, 1)
            swaps(2) = 0                    # nor is one with the partner
            stock(1, 0, 9)
            swaps(2) = 1
            """);
    }

    /** Two numbers to give and ten that lack: no book allows more swaps. */
    private static void swapsAtMost() {
        StringBuilder givers = new StringBuilder();
        for (int partner = 1; partner <= 5; partner++) {
            givers.append("stock(" + partner + ", " + 2 * partner + ", 2)\n");
            givers.append("stock(" + partner + ", " + (2 * partner + 1) + ", 2)\n");
        }
        Sentence.says(32, "The most SWAPS that can be done together", society("6 9 0 0 0 0 0 0 0 0 0 0"), givers.toString(), """
            swaps(2) = 2
            swaps(30) = 8
            swaps(62) = 10
            whole() = 5
            asked() = 62
            stock(0, 0, 5)                  # four SPARE for five partners
            swaps(62) = 9
            whole() = NONE
            stock(0, 0, 0)
            swaps(62) = 5
            """);
    }

    private static void swapGets() {
        Sentence.says(32, "a NUMBER that the society LACKS (and did not get yet), SPARE with the partner", society("0 9 9"), """
            stock(1, 0, 9)
            stock(2, 0, 9)
            swaps(2) = 1                    # the same NUMBER is got once, from one partner
            swaps(6) = 1
            stock(1, 3, 9)
            swaps(2) = 1                    # the society has number 3
            stock(0, 3, 0)
            swaps(2) = 2
            """);
        Sentence.says(32, "a NUMBER that the society LACKS", society("0 9"), """
            stock(1, 0, 1)
            swaps(2) = 0                    # it is not SPARE with the partner
            stock(1, 0, 2)
            swaps(2) = 1
            stock(0, 0, 1)
            swaps(2) = 0                    # the society does not LACK it
            """);
    }

    private static void swapGives() {
        Sentence.says(32, "against one that is SPARE with the society and that the partner has none of (and did not get yet)",
            society("0 0 3"), """
            stock(1, 0, 2)
            stock(1, 1, 2)
            swaps(2) = 1                    # it gets number 2 once
            stock(2, 0, 2)
            swaps(6) = 2                    # two SPARE copies for two partners
            stock(0, 2, 2)
            swaps(6) = 1                    # one for both
            stock(0, 3, 2)
            swaps(2) = 2
            stock(1, 2, 1)
            swaps(2) = 1                    # it has number 2
            stock(1, 3, 1)
            swaps(2) = 0
            swaps(6) = 1
            """);
        Sentence.says(32, "that the partner has none of", society("0 2"), """
            stock(1, 0, 2)
            stock(1, 1, 1)
            swaps(2) = 0
            stock(1, 1, 9)
            swaps(2) = 0
            stock(1, 1, 0)
            swaps(2) = 1
            """);
    }

    private static void swapsBad() {
        Sentence.says(32, "(bits 1 .. 5;", society("0 2"), """
            stock(5, 0, 2)
            swaps(0) = 0                    # without a partner
            swaps(30) = 0
            swaps(32) = 1
            swaps(62) = 1
            """);
        Sentence.says(32, "BAD.", society("0 2"), """
            stock(1, 0, 2)
            swaps(1) = BAD
            swaps(3) = BAD
            swaps(63) = BAD
            swaps(64) = BAD
            swaps(66) = BAD
            swaps(-1) = BAD
            swaps(-2) = BAD
            swaps(MIN) = BAD
            swaps(MAX) = BAD
            swaps(2) = 1
            """);
    }

    private static void whole() {
        Sentence.says(33, "The fewest partners with which as many SWAPS can be done as the society LACKS NUMBERS: how many",
            society("0 0 3"), """
            stock(5, 0, 2)
            stock(5, 1, 2)
            whole() = NONE                  # one SWAP of two
            stock(4, 0, 2)
            whole() = 2
            stock(0, 3, 2)
            whole() = 1
            stock(0, 0, 1)
            stock(0, 1, 1)
            whole() = 0                     # it LACKS none
            asked() = 0
            """);
        Sentence.says(33, "the set by asked() (the least bits of alike ones)", society("0 0 3"), """
            stock(5, 0, 2)
            stock(5, 1, 2)
            stock(4, 0, 2)
            stock(4, 1, 2)
            whole() = 2
            asked() = 48
            stock(1, 0, 2)
            whole() = 2
            asked() = 18
            stock(3, 1, 2)
            whole() = 2
            asked() = 10
            """);
    }

    private static void wholeFewest() {
        Sentence.says(33, "The fewest partners", society("0 0 3 2"), """
            stock(1, 0, 2)
            stock(2, 1, 2)
            whole() = 2
            asked() = 6
            stock(5, 0, 2)
            stock(5, 1, 2)
            whole() = 1                     # fewer partners, with greater bits
            asked() = 32
            """);
        Sentence.says(33, "The fewest partners with which", society("6 0 0 0 0 0"), """
            stock(1, 1, 2)
            stock(2, 2, 2)
            stock(3, 3, 2)
            stock(4, 4, 2)
            stock(5, 5, 2)
            whole() = 5                     # all
            asked() = 62
            stock(0, 0, 5)
            whole() = NONE
            """);
        Sentence.says(33, "(the least bits of alike ones)", society("0 2"), """
            stock(5, 0, 2)
            whole() = 1
            asked() = 32
            stock(3, 0, 2)
            whole() = 1
            asked() = 8
            stock(4, 0, 2)
            whole() = 1
            asked() = 8
            """);
    }

    private static void wholeLeastBits() {
        Sentence.says(33, "(the least bits of alike ones);", society("0 0 0 0 3 3"), """
            stock(1, 0, 2)
            stock(1, 1, 2)
            stock(5, 2, 2)
            stock(5, 3, 2)
            whole() = 2
            asked() = 34
            stock(2, 0, 2)
            stock(2, 2, 2)
            stock(3, 1, 2)
            stock(3, 3, 2)
            whole() = 2
            asked() = 12                    # bits 2 and 3 are less than bits 1 and 5
            """);
    }

    private static void wholeNone() {
        Sentence.says(33, "NONE: not with all.", society("0 2"), """
            whole() = NONE
            stock(3, 0, 2)
            whole() = 1
            asked() = 8
            stock(3, 1, 1)
            whole() = NONE
            asked() = 8                     # as it was
            """);
    }
}
