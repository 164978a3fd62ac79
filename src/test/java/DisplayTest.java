/** Promise 14: display. */
public final class DisplayTest {
    public static void main(String[] args) {
        DigitChip chip = new DigitChip();
        shows(chip, 0, 0, " 0000000000 00", DigitChip.NONE);
        shows(chip, 90123456789912L, 0, "-0123456789-12", DigitChip.NONE);
        shows(chip, 99999999999999L, 0, "-9999999999-99", DigitChip.NONE);
        shows(chip, 99999999999999L, 99999999999999L, "              ", DigitChip.NONE);
        shows(chip, 99999999999999L, 90000000000900L, " 9999999999 99", DigitChip.NONE);
        shows(chip, 81234567890812L, 0, " 1234567890 12", DigitChip.NONE);
        shows(chip, 11111111111111L, 9090909090909L, "  1 1 1 1 1 1 ", DigitChip.NONE);
        shows(chip, 12345678901234L, 88888888888888L, " 2345678901 34", DigitChip.NONE);
        points(chip);
        wrongPlaces(chip);
        Check.end();
    }

    private static void points(DigitChip chip) {
        long digit = 2;
        for (int k = 0; k < 14; k++) {
            shows(chip, 0, digit, " 0000000000 00", k >= 3 && k <= 12 ? k : DigitChip.NONE);
            digit *= 10;
        }
        shows(chip, 0, 22222222222222L, " 0000000000 00", 12);
        shows(chip, 0, 20000002000222L, " 0000000000 00", 6);
        shows(chip, 0, 13456789002000L, " 000000 000 00", 3);
        shows(chip, 2222222222222L, 0, " 2222222222 22", DigitChip.NONE);
    }

    private static void wrongPlaces(DigitChip chip) {
        for (int place : new int[] {-1, 15, 16, Integer.MIN_VALUE, Integer.MAX_VALUE}) {
            Check.due("display(" + place + ")", chip.display(place), DigitChip.NONE);
        }
    }

    private static void shows(DigitChip chip, long a, long b, String want, int point) {
        chip.set(0, a);
        chip.set(1, b);
        for (int place = 0; place < 14; place++) {
            Check.due("display(" + place + ") of " + a + " and " + b, chip.display(place), want.charAt(place));
        }
        Check.due("display(14) of " + a + " and " + b, chip.display(14), point);
    }
}
