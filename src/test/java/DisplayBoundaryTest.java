/** "THE DISPLAY" and promise 14: each of their boundaries. */
public final class DisplayBoundaryTest {
    private static final long FULL = 99999999999999L;

    public static void main(String[] args) {
        placesOutside0To14();
        digit13IsAtPlace0();
        everyDigitAtEveryPlace();
        onlyA9OfBHides();
        signsAreMinusFor9Alone();
        signsAreHiddenToo();
        pointAtItsDigits();
        pointOutside12To3();
        pointIsTheHighest();
        pointOnlyFor2();
        pointOfAHiddenDigit();
        showsAsRegistersChange();
        Check.end();
    }

    private static DigitChip with(long a, long b) {
        DigitChip chip = new DigitChip();
        Check.setAll(chip, a, b, FULL, FULL, FULL, FULL, FULL);
        return chip;
    }

    private static void shows(DigitChip chip, String want, int point) {
        for (int place = 0; place < 14; place++) {
            Check.due("display(" + place + ")", chip.display(place), want.charAt(place));
        }
        Check.due("display(14)", chip.display(14), point);
    }

    private static long ten(int k) {
        return k == 0 ? 1 : 10 * ten(k - 1);
    }

    private static void placesOutside0To14() {
        Check.about("Promise 14: The code at a place of the display; NONE if it isn't 0 .. 14");
        for (long b : new long[] {0, FULL, 22222222222222L}) {
            DigitChip chip = with(12345678901234L, b);
            for (int place : new int[] {-1, -2, -14, 15, 16, 28, 64, Integer.MIN_VALUE, Integer.MAX_VALUE}) {
                Check.due("display(" + place + ")", chip.display(place), DigitChip.NONE);
            }
        }
        DigitChip chip = with(90000000000005L, 0);
        Check.due("display(0)", chip.display(0), '-');
        Check.due("display(13)", chip.display(13), '5');
        Check.due("display(14)", chip.display(14), DigitChip.NONE);
    }

    private static void digit13IsAtPlace0() {
        Check.about("THE DISPLAY shows digits 13 to 0 of A at places 0 to 13");
        shows(with(0, 0), " 0000000000 00", DigitChip.NONE);
        shows(with(12345678901234L, 0), " 2345678901 34", DigitChip.NONE);
        shows(with(98765432109876L, 0), "-8765432109 76", DigitChip.NONE);
        shows(with(FULL, 0), "-9999999999-99", DigitChip.NONE);
    }

    private static void everyDigitAtEveryPlace() {
        Check.about("THE DISPLAY shows digits 13 to 0 of A (each digit 0 .. 9 of each of them)");
        for (int k = 0; k < 14; k++) {
            for (int digit = 0; digit < 10; digit++) {
                DigitChip chip = with(digit * ten(k), 0);
                int want = k == 13 || k == 2 ? digit == 9 ? 45 : 32 : 48 + digit;
                for (int place = 0; place < 14; place++) {
                    int rest = place == 0 || place == 11 ? 32 : 48;
                    Check.due("display(" + place + ")", chip.display(place), place == 13 - k ? want : rest);
                }
            }
        }
    }

    private static void onlyA9OfBHides() {
        Check.about("Digit k isn't shown (a blank, 32) if digit k of B is 9");
        for (int k = 0; k < 14; k++) {
            for (int digit = 0; digit < 10; digit++) {
                DigitChip chip = with(FULL, digit * ten(k));
                for (int place = 0; place < 14; place++) {
                    int shown = place == 0 || place == 11 ? 45 : 57;
                    boolean hidden = place == 13 - k && digit == 9;
                    Check.due("display(" + place + ") with " + digit + " in B", chip.display(place), hidden ? 32 : shown);
                }
            }
        }
        shows(with(FULL, FULL), " ".repeat(14), DigitChip.NONE);
        shows(with(0, FULL), " ".repeat(14), DigitChip.NONE);
    }

    private static void signsAreMinusFor9Alone() {
        Check.about("Digits 13 and 2 are signs: 45 ( - ) if the digit of A is 9, else a blank");
        for (int digit = 0; digit < 10; digit++) {
            char sign = digit == 9 ? '-' : ' ';
            shows(with(digit * ten(13), 0), sign + "0000000000 00", DigitChip.NONE);
            shows(with(digit * ten(2), 0), " 0000000000" + sign + "00", DigitChip.NONE);
        }
    }

    private static void signsAreHiddenToo() {
        Check.about("Digit k isn't shown if digit k of B is 9 (a sign, too)");
        shows(with(FULL, 9 * ten(13)), " 9999999999-99", DigitChip.NONE);
        shows(with(FULL, 9 * ten(2)), "-9999999999 99", DigitChip.NONE);
        shows(with(FULL, 8 * ten(13) + 8 * ten(2)), "-9999999999-99", DigitChip.NONE);
    }

    private static void pointAtItsDigits() {
        Check.about("Place 14 is the highest digit of 12 .. 3 whose digit of B is 2, if there is one");
        for (int k = 3; k <= 12; k++) {
            shows(with(0, 2 * ten(k)), " 0000000000 00", k);
        }
    }

    private static void pointOutside12To3() {
        Check.about("Place 14: of 12 .. 3; else NONE");
        for (int k : new int[] {0, 1, 2, 13}) {
            shows(with(0, 2 * ten(k)), " 0000000000 00", DigitChip.NONE);
        }
        shows(with(0, 20000000000222L), " 0000000000 00", DigitChip.NONE);
        shows(with(22222222222222L, 0), " 2222222222 22", DigitChip.NONE);
        shows(with(0, 0), " 0000000000 00", DigitChip.NONE);
    }

    private static void pointIsTheHighest() {
        Check.about("Place 14 is the highest digit");
        for (int high = 3; high <= 12; high++) {
            for (int low = 0; low < high; low++) {
                shows(with(0, 2 * ten(high) + 2 * ten(low) + 2 * ten(13)), " 0000000000 00", high);
            }
        }
        shows(with(0, 22222222222222L), " 0000000000 00", 12);
    }

    private static void pointOnlyFor2() {
        Check.about("Place 14: whose digit of B is 2");
        for (int k = 3; k <= 12; k++) {
            for (int digit = 0; digit < 10; digit++) {
                DigitChip chip = with(0, digit * ten(k));
                Check.due("display(14) with " + digit + " at " + k, chip.display(14), digit == 2 ? k : DigitChip.NONE);
            }
        }
    }

    private static void pointOfAHiddenDigit() {
        Check.about("Place 14 with digits that aren't shown");
        shows(with(11111111111111L, 99999299999999L), "     1        ", 8);
        shows(with(11111111111111L, 92999999999999L), " 1            ", 12);
        shows(with(11111111111111L, 99999999992999L), "          1   ", 3);
    }

    private static void showsAsRegistersChange() {
        Check.about("THE DISPLAY shows digits of A (as they are now)");
        DigitChip chip = Check.chip("A=A+1.w B=A.w A:B.w");
        chip.set(0, FULL);
        shows(chip, "-9999999999-99", DigitChip.NONE);
        chip.run(1);
        shows(chip, " 0000000000 00", DigitChip.NONE);
        chip.set(0, 2 * ten(12));
        chip.run(1);
        shows(chip, " 2000000000 00", 12);
        chip.set(1, 3);
        chip.run(1);
        shows(chip, " 0000000000 03", 12);
    }
}
