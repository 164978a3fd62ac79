/** Promises 10 and 11: value and set. */
public final class RegistersTest {
    public static void main(String[] args) {
        DigitChip chip = new DigitChip();
        Check.setAll(chip, 11, 12, 13, 14, 15, 16, 17);
        Check.values(chip, "behind set", 11, 12, 13, 14, 15, 16, 17);
        wrongRegisters(chip);
        wrongValues(chip);
        lowestFourteenDigits(chip);
        setChangesNothingElse();
        Check.end();
    }

    private static void wrongRegisters(DigitChip chip) {
        for (int register : new int[] {-1, 7, 8, Integer.MIN_VALUE, Integer.MAX_VALUE}) {
            Check.due("value(" + register + ")", chip.value(register), DigitChip.NONE);
            Check.due("set(" + register + ", 5)", chip.set(register, 5), false);
        }
        Check.values(chip, "behind wrong sets", 11, 12, 13, 14, 15, 16, 17);
    }

    private static void wrongValues(DigitChip chip) {
        for (long v : new long[] {-1, -100000000000001L, Long.MIN_VALUE}) {
            Check.due("set(3, " + v + ")", chip.set(3, v), false);
        }
        Check.values(chip, "behind wrong sets", 11, 12, 13, 14, 15, 16, 17);
    }

    private static void lowestFourteenDigits(DigitChip chip) {
        long[][] pairs = {
            {0, 0}, {99999999999999L, 99999999999999L}, {100000000000000L, 0}, {100000000000001L, 1},
            {123456789012345678L, 56789012345678L}, {Long.MAX_VALUE, 72036854775807L}
        };
        for (int register = 0; register < 7; register++) {
            for (long[] pair : pairs) {
                Check.due("set(" + register + ", " + pair[0] + ")", chip.set(register, pair[0]), true);
                Check.due("value(" + register + ")", chip.value(register), pair[1]);
            }
        }
    }

    private static void setChangesNothingElse() {
        DigitChip chip = Check.chip("@s :s s1+ p=3 ?s1 no");
        chip.run(4);
        chip.key(2);
        Check.setAll(chip, 1, 2, 3, 4, 5, 6, 7);
        Check.states(chip, "behind set", 3, 2, 1, 4, 1);
        Check.due("keys() behind set", chip.keys(), 1);
        Check.words(chip, "behind set", 5, 76, 196, 84);
    }
}
