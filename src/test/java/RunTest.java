/** Promise 9: run, and with it how each word is done. */
public final class RunTest {
    private static final long FULL = 99999999999999L;

    public static void main(String[] args) {
        counts();
        wrongCounts();
        jumps();
        calls();
        carryLasts();
        pointer();
        status();
        digits();
        stack();
        keys();
        stops();
        fields();
        fieldMoves();
        fieldSums();
        fieldDifferences();
        fieldShifts();
        fieldTests();
        onlyTheFieldCounts();
        Check.end();
    }

    private static void counts() {
        DigitChip chip = new DigitChip();
        Check.due("run(0)", chip.run(0), 0);
        Check.due("place", chip.state(3), 0);
        Check.due("run(63)", chip.run(63), 63);
        Check.due("place", chip.state(3), 63);
        Check.due("run(1) at the last place", chip.run(1), 1);
        Check.due("place", chip.state(3), 0);
        Check.due("run(400)", chip.run(400), 400);
        Check.due("place", chip.state(3), 400 % 64);
    }

    private static void wrongCounts() {
        DigitChip chip = Check.chip("?p=0 p+ p+");
        chip.run(1);
        for (int n : new int[] {-1, 401, 402, Integer.MIN_VALUE, Integer.MAX_VALUE}) {
            boolean thrown = false;
            try {
                chip.run(n);
            } catch (IllegalArgumentException e) {
                thrown = true;
            }
            Check.due("run(" + n + ") throws", thrown, true);
            Check.states(chip, "behind a wrong run", 0, 0, 1, 1, 0);
        }
    }

    private static void jumps() {
        DigitChip chip = new DigitChip();
        chip.poke(0, 50 * 4 + 3);
        chip.poke(50, 512 + 256 + 20 * 4 + 3);
        chip.run(1);
        Check.states(chip, "behind a jump", 0, 0, 0, 50, 0);
        chip.run(1);
        Check.states(chip, "behind a jump with higher bits", 0, 0, 0, 20, 0);
        chip = Check.chip("?p=0 >a p+ :a no");
        chip.run(2);
        Check.states(chip, "behind a jump with the carry", 0, 0, 0, 2, 0);
        chip.poke(63, 63 * 4 + 3);
        chip.go(63);
        Check.due("run(9) of a jump to itself", chip.run(9), 9);
        Check.due("place", chip.state(3), 63);
    }

    private static void calls() {
        DigitChip chip = new DigitChip();
        chip.poke(0, 40 * 4 + 1);
        chip.poke(40, 768 + 63 * 4 + 1);
        chip.poke(63, 10 * 4 + 1);
        chip.poke(10, 44);
        chip.run(1);
        Check.states(chip, "behind a call", 0, 0, 0, 40, 1);
        chip.run(1);
        Check.states(chip, "behind a call with higher bits", 0, 0, 0, 63, 41);
        chip.run(1);
        Check.states(chip, "behind a call at the last place", 0, 0, 0, 10, 0);
        chip.go(40);
        chip.run(1);
        chip.go(10);
        chip.run(1);
        Check.states(chip, "behind back", 0, 0, 0, 41, 41);
        chip = Check.chip("?p=0 @a no :a no");
        chip.run(2);
        Check.states(chip, "behind a call with the carry", 0, 0, 0, 3, 2);
    }

    private static void carryLasts() {
        for (String name : new String[] {"no", "p=0", "sd+", "?p=1", "push", "back", "C:M", "A=0.w", "A<.w", "?B.w"}) {
            DigitChip chip = Check.chip("?p=0 " + name);
            chip.run(1);
            Check.due("carry behind ?p=0", chip.state(2), 1);
            chip.run(1);
            Check.due("carry behind " + name, chip.state(2), 0);
        }
        DigitChip chip = Check.chip("?p=0 stop key");
        chip.run(2);
        Check.due("carry behind stop", chip.state(2), 0);
        chip = Check.chip("?p=0 key");
        chip.run(2);
        Check.states(chip, "behind key without one", 0, 0, 0, 1, 0);
    }

    private static void pointer() {
        for (int n = 0; n < 16; n++) {
            DigitChip chip = new DigitChip();
            chip.poke(0, n * 64 + 4);
            chip.poke(1, n * 64 + 8);
            chip.poke(2, 28);
            chip.run(1);
            Check.due("pointer behind p=" + n, chip.state(0), n % 14);
            chip.run(1);
            Check.due("carry behind ?p=" + n, chip.state(2), n < 14 ? 1 : 0);
            chip.run(1);
            Check.due("pointer behind p+", chip.state(0), (n % 14 + 1) % 14);
            chip.poke(3, 32);
            chip.run(1);
            Check.due("pointer behind p-", chip.state(0), n % 14);
            chip.poke(4, 32);
            chip.run(1);
            Check.due("pointer behind p-", chip.state(0), (n % 14 + 13) % 14);
        }
    }

    private static void status() {
        DigitChip chip = new DigitChip();
        for (int n = 0; n < 16; n++) {
            chip.poke(0, n * 64 + 12);
            chip.poke(1, n * 64 + 20);
            chip.poke(2, n * 64 + 16);
            chip.poke(3, n * 64 + 20);
            chip.go(0);
            chip.run(1);
            Check.due("status behind s+ " + n, chip.state(1), n < 12 ? 1 << n : 0);
            chip.run(1);
            Check.due("carry behind ?s " + n, chip.state(2), n < 12 ? 1 : 0);
            chip.run(1);
            Check.due("status behind s- " + n, chip.state(1), 0);
            chip.run(1);
            Check.due("carry behind ?s " + n, chip.state(2), 0);
        }
        chip = Check.chip("s0+ s1+ s1+ sb+ s1- s1- se+ se- ?se ?sc ?sb ?s0 ?s1");
        chip.run(4);
        Check.due("status", chip.state(1), 2051);
        chip.run(4);
        Check.due("status", chip.state(1), 2049);
        for (int want : new int[] {0, 0, 1, 1, 0}) {
            chip.run(1);
            Check.due("carry of a status bit", chip.state(2), want);
        }
    }

    private static void digits() {
        DigitChip chip = Check.chip("p=1 l7 lf l3 l0");
        chip.set(2, FULL);
        chip.run(2);
        Check.values(chip, "behind l7", 0, 0, 99999999999979L);
        Check.states(chip, "behind l7", 0, 0, 0, 2, 0);
        chip.run(1);
        Check.values(chip, "behind lf", 0, 0, 99999999999975L);
        Check.states(chip, "behind lf", 13, 0, 0, 3, 0);
        chip.run(2);
        Check.values(chip, "behind l0", 0, 0, 30999999999975L);
        Check.states(chip, "behind l0", 11, 0, 0, 5, 0);
    }

    private static void stack() {
        does("push", new long[] {1, 2, 3, 4, 5, 6, 7}, new long[] {1, 2, 3, 3, 4, 5, 7});
        does("pop", new long[] {1, 2, 3, 4, 5, 6, 7}, new long[] {4, 2, 3, 5, 6, 6, 7});
        does("down", new long[] {1, 2, 3, 4, 5, 6, 7}, new long[] {3, 2, 4, 5, 6, 6, 7});
        does("C:M", new long[] {1, 2, FULL, 4, 5, 6, 7}, new long[] {1, 2, 7, 4, 5, 6, FULL});
        does("no", new long[] {1, 2, 3, 4, 5, 6, 7}, new long[] {1, 2, 3, 4, 5, 6, 7});
    }

    private static void does(String text, long[] before, long[] behind) {
        DigitChip chip = Check.chip(text);
        Check.setAll(chip, before);
        chip.run(1);
        Check.values(chip, "behind " + text, behind);
        Check.states(chip, "behind " + text, 0, 0, 0, 1, 0);
    }

    private static void keys() {
        DigitChip chip = Check.chip("no key p+ p+");
        Check.due("run(9) without a key", chip.run(9), 2);
        Check.due("place", chip.state(3), 1);
        Check.due("run(9) without a key again", chip.run(9), 1);
        Check.due("place", chip.state(3), 1);
        chip.key(9);
        chip.key(4);
        Check.due("run(3) with a key goes on", chip.run(3), 3);
        Check.states(chip, "behind key 9", 0, 0, 0, 10, 0);
        Check.due("keys()", chip.keys(), 1);
        chip.poke(63, 48);
        chip.go(63);
        chip.run(1);
        Check.due("place of key 4", chip.state(3), 32);
        chip.go(63);
        Check.due("run(9) at the last place", chip.run(9), 1);
        Check.due("place", chip.state(3), 63);
    }

    private static void stops() {
        DigitChip chip = Check.chip("p+ stop p+ p+ stop");
        Check.due("run(9)", chip.run(9), 2);
        Check.states(chip, "behind stop", 1, 0, 0, 2, 0);
        Check.due("run(2) to before stop", chip.run(2), 2);
        Check.due("run(0) at stop", chip.run(0), 0);
        Check.due("run(1) of stop", chip.run(1), 1);
        Check.states(chip, "behind stop", 3, 0, 0, 5, 0);
        chip.poke(63, 52);
        Check.due("run(400) to the last place", chip.run(400), 59);
        Check.due("place", chip.state(3), 0);
    }

    private static void fields() {
        String letters = "pqexsmnw";
        int[] low = {4, 0, 2, 0, 13, 3, 3, 0};
        int[] high = {4, 4, 2, 2, 13, 12, 13, 13};
        for (int field = 0; field < 8; field++) {
            DigitChip chip = Check.chip("p=4 A=0.".concat(letters.substring(field, field + 1)));
            chip.set(0, FULL);
            chip.run(2);
            StringBuilder want = new StringBuilder();
            for (int k = 13; k >= 0; k--) {
                want.append(k >= low[field] && k <= high[field] ? '0' : '9');
            }
            Check.due("A=0." + letters.charAt(field), chip.value(0), Long.parseLong(want.toString()));
        }
        works("p=d A=0.p", FULL, 0, 0, 9999999999999L, 0, 0, 0);
        works("p=0 A=0.p", FULL, 0, 0, 99999999999990L, 0, 0, 0);
        works("p=d A=0.q", FULL, 0, 0, 0, 0, 0, 0);
        works("p=0 A=0.q", FULL, 0, 0, 99999999999990L, 0, 0, 0);
    }

    /** Does all words of a text with A, B and C, and looks at these and the carry behind it. */
    private static void works(String text, long a, long b, long c, long wantA, long wantB, long wantC, int carry) {
        DigitChip chip = Check.chip(text);
        int words = text.split(" ").length;
        Check.setAll(chip, a, b, c, 4, 5, 6, 7);
        Check.due("run of " + text, chip.run(words), words);
        Check.values(chip, "behind " + text, wantA, wantB, wantC, 4, 5, 6, 7);
        Check.due("carry behind " + text, chip.state(2), carry);
    }

    private static void fieldMoves() {
        long a = 11111111111111L;
        long b = 22222222222222L;
        long c = 33333333333333L;
        works("A=0.x", a, b, c, 11111111111000L, b, c, 0);
        works("B=0.x", a, b, c, a, 22222222222000L, c, 0);
        works("C=0.x", a, b, c, a, b, 33333333333000L, 0);
        works("A:B.x", a, b, c, 11111111111222L, 22222222222111L, c, 0);
        works("B=A.x", a, b, c, a, 22222222222111L, c, 0);
        works("A:C.x", a, b, c, 11111111111333L, b, 33333333333111L, 0);
        works("C=B.x", a, b, c, a, b, 33333333333222L, 0);
        works("B:C.x", a, b, c, a, 22222222222333L, 33333333333222L, 0);
        works("A=C.x", a, b, c, 11111111111333L, b, c, 0);
    }

    private static void fieldSums() {
        works("A=A+B.w", 1, 2, 3, 3, 2, 3, 0);
        works("A=A+C.w", 1, 2, 3, 4, 2, 3, 0);
        works("C=A+C.w", 1, 2, 3, 1, 2, 4, 0);
        works("A=A+1.w", 9, 2, 3, 10, 2, 3, 0);
        works("C=C+1.w", 1, 2, 99, 1, 2, 100, 0);
        works("C=C+C.w", 1, 2, 75, 1, 2, 150, 0);
        works("A=A+B.w", FULL, FULL, 3, 99999999999998L, FULL, 3, 1);
        works("A=A+C.w", FULL, 2, 1, 0, 2, 1, 1);
        works("C=A+C.w", 1, 2, FULL, 1, 2, 0, 1);
        works("A=A+1.w", FULL, 2, 3, 0, 2, 3, 1);
        works("C=C+1.w", 1, 2, FULL, 1, 2, 0, 1);
        works("C=C+C.w", 1, 2, 50000000000000L, 1, 2, 0, 1);
        works("C=C+C.w", 1, 2, 49999999999999L, 1, 2, 99999999999998L, 0);
        works("A=A+1.e", 1901, 2, 3, 1001, 2, 3, 1);
        works("A=A+1.m", 1999, 2, 3, 2999, 2, 3, 0);
        works("A=A+1.m", 19999999999123L, 2, 3, 10000000000123L, 2, 3, 1);
        works("A=A+1.n", 99999999999123L, 2, 3, 123, 2, 3, 1);
        works("p=3 A=A+1.q", 99999, 2, 3, 90000, 2, 3, 1);
        works("C=C+1.s", 1, 2, 90000000000005L, 1, 2, 5, 1);
    }

    private static void fieldDifferences() {
        works("A=A-B.w", 5, 3, 1, 2, 3, 1, 0);
        works("A=A-C.w", 5, 3, 1, 4, 3, 1, 0);
        works("C=A-C.w", 5, 3, 1, 5, 3, 4, 0);
        works("A=A-1.w", 5, 3, 1, 4, 3, 1, 0);
        works("C=C-1.w", 5, 3, 1, 5, 3, 0, 0);
        works("C=-C.w", 5, 3, 0, 5, 3, 0, 0);
        works("C=-C.w", 5, 3, 1, 5, 3, FULL, 1);
        works("C=-C.w", 5, 3, FULL, 5, 3, 1, 1);
        works("C=-C-1.w", 5, 3, 0, 5, 3, FULL, 1);
        works("C=-C-1.w", 5, 3, 1, 5, 3, 99999999999998L, 1);
        works("C=-C-1.w", 5, 3, FULL, 5, 3, 0, 1);
        works("A=A-B.w", 3, 3, 1, 0, 3, 1, 0);
        works("A=A-B.w", 3, 5, 1, 99999999999998L, 5, 1, 1);
        works("A=A-C.w", 0, 3, FULL, 1, 3, FULL, 1);
        works("C=A-C.w", 1, 3, 2, 1, 3, FULL, 1);
        works("A=A-1.w", 0, 3, 1, FULL, 3, 1, 1);
        works("C=C-1.w", 5, 3, 0, 5, 3, FULL, 1);
        works("A=A-1.e", 1001, 2, 3, 1901, 2, 3, 1);
        works("A=A-1.m", 10000000000000L, 2, 3, 19999999999000L, 2, 3, 1);
        works("p=5 C=-C-1.p", 1, 2, 7123456, 1, 2, 7823456, 1);
    }

    private static void fieldShifts() {
        long n = 12345678901234L;
        works("A<.w", n, n, n, 23456789012340L, n, n, 0);
        works("A>.w", n, n, n, 1234567890123L, n, n, 0);
        works("B>.w", n, n, n, n, 1234567890123L, n, 0);
        works("C>.w", n, n, n, n, n, 1234567890123L, 0);
        works("A<.x", n, n, n, 12345678901340L, n, n, 0);
        works("A>.x", n, n, n, 12345678901023L, n, n, 0);
        works("B>.m", n, n, n, n, 10234567890234L, n, 0);
        works("C>.n", n, n, n, n, n, 1234567890234L, 0);
        works("A<.s", n, n, n, 2345678901234L, n, n, 0);
        works("A>.e", n, n, n, 12345678901034L, n, n, 0);
        works("A<.w", FULL, 2, 3, 99999999999990L, 2, 3, 0);
    }

    private static void fieldTests() {
        int[][] rows = {
            // a, b, c, then the carry of ?A<B ?A<C ?B ?C ?A=0 ?C=0
            {0, 0, 0, 0, 0, 0, 0, 1, 1},
            {0, 1, 0, 1, 0, 1, 0, 1, 1},
            {0, 0, 1, 0, 1, 0, 1, 1, 0},
            {1, 1, 1, 0, 0, 1, 1, 0, 0},
            {1, 2, 0, 1, 0, 1, 0, 0, 1},
            {2, 1, 3, 0, 1, 1, 1, 0, 0}
        };
        String[] names = {"?A<B", "?A<C", "?B", "?C", "?A=0", "?C=0"};
        for (int[] row : rows) {
            for (int i = 0; i < names.length; i++) {
                works(names[i] + ".w", row[0], row[1], row[2], row[0], row[1], row[2], row[3 + i]);
                long unit = 10000000000000L;
                works(names[i] + ".s", row[0] * unit, row[1] * unit, row[2] * unit,
                    row[0] * unit, row[1] * unit, row[2] * unit, row[3 + i]);
            }
        }
    }

    private static void onlyTheFieldCounts() {
        works("?A=0.x", 99999999999000L, 0, 0, 99999999999000L, 0, 0, 1);
        works("?B.m", 0, 90000000000999L, 0, 0, 90000000000999L, 0, 0);
        works("?A<B.e", 999, 1999, 0, 999, 1999, 0, 0);
        works("?A<B.e", 899, 900, 0, 899, 900, 0, 1);
        works("A=A+B.x", 5999, 7001, 0, 5000, 7001, 0, 1);
        works("A=A-B.x", 5000, 7001, 0, 5999, 7001, 0, 1);
        works("C=-C.e", 0, 0, 1099, 0, 0, 1099, 0);
    }
}
