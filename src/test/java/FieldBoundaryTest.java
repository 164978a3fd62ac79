/** "Terms": the boundaries of the registers, of the fields and of the 32 operations on them. */
public final class FieldBoundaryTest {
    private static final long FULL = 99999999999999L;
    private static final String LETTERS = "pqexsmnw";

    public static void main(String[] args) {
        registersHaveFourteenDigits();
        fieldAtThePointer();
        fieldUpToThePointer();
        fixedFields();
        onlyTheFieldIsLookedAt();
        onlyTheFieldIsChanged();
        sumsThatFit();
        sumsWithADigitMore();
        differencesNotBelow0();
        differencesBelow0();
        negatives();
        shiftLeft();
        shiftsRight();
        lessIsNotEqual();
        zeroAndNot0();
        movesMakeNoCarry();
        Check.end();
    }

    /** The registers A, B and C, of which one word is done; what is due of them and of the carry behind it. */
    private static void works(int pointer, String name, long[] before, long[] behind, int carry) {
        DigitChip chip = Check.chip("p=" + Integer.toHexString(pointer) + " " + name);
        Check.setAll(chip, before[0], before[1], before[2], FULL, 0, FULL, 0);
        Check.due("run(2)", chip.run(2), 2);
        String when = "behind " + name + " at " + pointer + " of " + before[0] + ", " + before[1] + ", " + before[2];
        Check.values(chip, when, behind[0], behind[1], behind[2], FULL, 0, FULL, 0);
        Check.states(chip, when, pointer, 0, carry, 2, 0);
    }

    private static long[] abc(long a, long b, long c) {
        return new long[] {a, b, c};
    }

    private static long ten(int k) {
        long ten = 1;
        for (int i = 0; i < k; i++) {
            ten *= 10;
        }
        return ten;
    }

    private static int lowOf(int field, int pointer) {
        return new int[] {pointer, 0, 2, 0, 13, 3, 3, 0}[field];
    }

    private static int highOf(int field, int pointer) {
        return new int[] {pointer, pointer, 2, 2, 13, 12, 13, 13}[field];
    }

    /** What a part in a field is of the whole register. */
    private static long in(int field, int pointer, long part) {
        return part * ten(lowOf(field, pointer));
    }

    /** The greatest part of a field. */
    private static long most(int field, int pointer) {
        return ten(highOf(field, pointer) - lowOf(field, pointer) + 1) - 1;
    }

    private static void registersHaveFourteenDigits() {
        Check.about("REGISTERS of 14 DIGITS 0 .. 9, digit 0 being the lowest");
        for (int register = 0; register < 7; register++) {
            DigitChip chip = new DigitChip();
            for (int k = 0; k < 14; k++) {
                Check.due("set(" + register + ", 9 at digit " + k + ")", chip.set(register, 9 * ten(k)), true);
                Check.due("value(" + register + ")", chip.value(register), 9 * ten(k));
            }
            Check.due("set(" + register + ", fourteen digits)", chip.set(register, FULL), true);
            Check.due("value(" + register + ")", chip.value(register), FULL);
        }
        DigitChip chip = Check.chip("l1 l2");
        chip.run(2);
        Check.due("C with 1 at digit 0 and 2 at digit 13", chip.value(2), 20000000000001L);
    }

    private static void fieldAtThePointer() {
        Check.about("0 (letter p) that at the pointer");
        for (int pointer = 0; pointer < 14; pointer++) {
            works(pointer, "A=0.p", abc(FULL, 1, 2), abc(FULL - 9 * ten(pointer), 1, 2), 0);
            works(pointer, "A=C.p", abc(0, 1, FULL), abc(9 * ten(pointer), 1, FULL), 0);
        }
    }

    private static void fieldUpToThePointer() {
        Check.about("1 (q) from 0 to the pointer");
        for (int pointer = 0; pointer < 14; pointer++) {
            works(pointer, "A=0.q", abc(FULL, 1, 2), abc(FULL - (ten(pointer + 1) - 1), 1, 2), 0);
            works(pointer, "A=C.q", abc(0, 1, FULL), abc(ten(pointer + 1) - 1, 1, FULL), 0);
        }
    }

    private static void fixedFields() {
        String[] sentences = {"2 (e) digit 2", "3 (x) 0 to 2", "4 (s) digit 13", "5 (m) 3 to 12", "6 (n) 3 to 13", "7 (w) all"};
        long[] nines = {900L, 999L, 90000000000000L, 9999999999000L, 99999999999000L, FULL};
        for (int i = 0; i < nines.length; i++) {
            Check.about(sentences[i]);
            for (int pointer = 0; pointer < 14; pointer++) {
                works(pointer, "A=0." + LETTERS.charAt(i + 2), abc(FULL, 1, 2), abc(FULL - nines[i], 1, 2), 0);
                works(pointer, "A=C." + LETTERS.charAt(i + 2), abc(0, 1, FULL), abc(nines[i], 1, FULL), 0);
            }
        }
    }

    private static void onlyTheFieldIsLookedAt() {
        Check.about("only digits of the field are looked at");
        for (int field = 0; field < 8; field++) {
            String f = "." + LETTERS.charAt(field);
            for (int pointer : new int[] {0, 1, 6, 12, 13}) {
                long outside = FULL - in(field, pointer, most(field, pointer));
                works(pointer, "?A=0" + f, abc(outside, 0, 0), abc(outside, 0, 0), 1);
                works(pointer, "?C=0" + f, abc(0, 0, outside), abc(0, 0, outside), 1);
                works(pointer, "?B" + f, abc(0, outside, 0), abc(0, outside, 0), 0);
                works(pointer, "?C" + f, abc(0, 0, outside), abc(0, 0, outside), 0);
                works(pointer, "?A<B" + f, abc(0, outside, 0), abc(0, outside, 0), 0);
                works(pointer, "?A<C" + f, abc(0, 0, outside), abc(0, 0, outside), 0);
                works(pointer, "A=A-B" + f, abc(0, outside, 0), abc(0, outside, 0), 0);
                works(pointer, "C=-C" + f, abc(0, 0, outside), abc(0, 0, outside), 0);
                works(pointer, "A=A+B" + f, abc(outside, outside, 0), abc(outside, outside, 0), 0);
                works(pointer, "C=C+C" + f, abc(0, 0, outside), abc(0, 0, outside), 0);
            }
        }
    }

    private static void onlyTheFieldIsChanged() {
        Check.about("only digits of the field are changed");
        for (int field = 0; field < 8; field++) {
            String f = "." + LETTERS.charAt(field);
            for (int pointer : new int[] {0, 1, 6, 12, 13}) {
                long all = in(field, pointer, most(field, pointer));
                long rest = FULL - all;
                works(pointer, "A=0" + f, abc(FULL, FULL, FULL), abc(rest, FULL, FULL), 0);
                works(pointer, "B=0" + f, abc(FULL, FULL, FULL), abc(FULL, rest, FULL), 0);
                works(pointer, "C=0" + f, abc(FULL, FULL, FULL), abc(FULL, FULL, rest), 0);
                works(pointer, "A:B" + f, abc(FULL, 0, FULL), abc(rest, all, FULL), 0);
                works(pointer, "B=A" + f, abc(FULL, 0, FULL), abc(FULL, all, FULL), 0);
                works(pointer, "A:C" + f, abc(FULL, FULL, 0), abc(rest, FULL, all), 0);
                works(pointer, "C=B" + f, abc(FULL, FULL, 0), abc(FULL, FULL, all), 0);
                works(pointer, "B:C" + f, abc(FULL, FULL, 0), abc(FULL, rest, all), 0);
                works(pointer, "A=C" + f, abc(0, 0, FULL), abc(all, 0, FULL), 0);
            }
        }
    }

    private static void sumsThatFit() {
        Check.about("a sum that has no digit more than the field: no carry");
        for (int field = 0; field < 8; field++) {
            String f = "." + LETTERS.charAt(field);
            for (int pointer : new int[] {0, 1, 6, 12, 13}) {
                long most = in(field, pointer, most(field, pointer));
                long less = in(field, pointer, most(field, pointer) - 1);
                long one = in(field, pointer, 1);
                long half = in(field, pointer, most(field, pointer) / 2);
                works(pointer, "A=A+B" + f, abc(less, one, 0), abc(most, one, 0), 0);
                works(pointer, "A=A+C" + f, abc(less, 0, one), abc(most, 0, one), 0);
                works(pointer, "C=A+C" + f, abc(less, 0, one), abc(less, 0, most), 0);
                works(pointer, "A=A+1" + f, abc(less, 0, 0), abc(most, 0, 0), 0);
                works(pointer, "C=C+1" + f, abc(0, 0, less), abc(0, 0, most), 0);
                works(pointer, "C=C+C" + f, abc(0, 0, half), abc(0, 0, less), 0);
            }
        }
    }

    private static void sumsWithADigitMore() {
        Check.about("The carry is 1 where a sum has a digit more than the field (that is left out)");
        for (int field = 0; field < 8; field++) {
            String f = "." + LETTERS.charAt(field);
            for (int pointer : new int[] {0, 1, 6, 12, 13}) {
                long most = in(field, pointer, most(field, pointer));
                long less = in(field, pointer, most(field, pointer) - 1);
                long one = in(field, pointer, 1);
                long half = in(field, pointer, most(field, pointer) / 2 + 1);
                works(pointer, "A=A+B" + f, abc(most, one, 0), abc(0, one, 0), 1);
                works(pointer, "A=A+B" + f, abc(most, most, 0), abc(less, most, 0), 1);
                works(pointer, "A=A+C" + f, abc(most, 0, one), abc(0, 0, one), 1);
                works(pointer, "A=A+C" + f, abc(most, 0, most), abc(less, 0, most), 1);
                works(pointer, "C=A+C" + f, abc(most, 0, one), abc(most, 0, 0), 1);
                works(pointer, "C=A+C" + f, abc(most, 0, most), abc(most, 0, less), 1);
                works(pointer, "A=A+1" + f, abc(most, 0, 0), abc(0, 0, 0), 1);
                works(pointer, "C=C+1" + f, abc(0, 0, most), abc(0, 0, 0), 1);
                works(pointer, "C=C+C" + f, abc(0, 0, half), abc(0, 0, 0), 1);
                works(pointer, "C=C+C" + f, abc(0, 0, most), abc(0, 0, less), 1);
            }
        }
    }

    private static void differencesNotBelow0() {
        Check.about("a difference that isn't less than 0: no carry");
        for (int field = 0; field < 8; field++) {
            String f = "." + LETTERS.charAt(field);
            for (int pointer : new int[] {0, 1, 6, 12, 13}) {
                long most = in(field, pointer, most(field, pointer));
                long one = in(field, pointer, 1);
                works(pointer, "A=A-B" + f, abc(most, most, 0), abc(0, most, 0), 0);
                works(pointer, "A=A-C" + f, abc(most, 0, most), abc(0, 0, most), 0);
                works(pointer, "C=A-C" + f, abc(most, 0, most), abc(most, 0, 0), 0);
                works(pointer, "A=A-B" + f, abc(most, 0, 0), abc(most, 0, 0), 0);
                works(pointer, "A=A-C" + f, abc(most, 0, 0), abc(most, 0, 0), 0);
                works(pointer, "C=A-C" + f, abc(most, 0, 0), abc(most, 0, most), 0);
                works(pointer, "A=A-1" + f, abc(one, 0, 0), abc(0, 0, 0), 0);
                works(pointer, "C=C-1" + f, abc(0, 0, one), abc(0, 0, 0), 0);
            }
        }
    }

    private static void differencesBelow0() {
        Check.about("where a difference is less than 0 (10 to the number of the field's digits is added then)");
        for (int field = 0; field < 8; field++) {
            String f = "." + LETTERS.charAt(field);
            for (int pointer : new int[] {0, 1, 6, 12, 13}) {
                long most = in(field, pointer, most(field, pointer));
                long one = in(field, pointer, 1);
                works(pointer, "A=A-B" + f, abc(0, one, 0), abc(most, one, 0), 1);
                works(pointer, "A=A-B" + f, abc(0, most, 0), abc(one, most, 0), 1);
                works(pointer, "A=A-C" + f, abc(0, 0, one), abc(most, 0, one), 1);
                works(pointer, "A=A-C" + f, abc(0, 0, most), abc(one, 0, most), 1);
                works(pointer, "C=A-C" + f, abc(0, 0, one), abc(0, 0, most), 1);
                works(pointer, "C=A-C" + f, abc(0, 0, most), abc(0, 0, one), 1);
                works(pointer, "A=A-1" + f, abc(0, 0, 0), abc(most, 0, 0), 1);
                works(pointer, "C=C-1" + f, abc(0, 0, 0), abc(0, 0, most), 1);
            }
        }
    }

    private static void negatives() {
        Check.about("18 C = 0 - C; 19 C = 0 - C - 1");
        for (int field = 0; field < 8; field++) {
            String f = "." + LETTERS.charAt(field);
            for (int pointer : new int[] {0, 1, 6, 12, 13}) {
                long most = in(field, pointer, most(field, pointer));
                long less = in(field, pointer, most(field, pointer) - 1);
                long one = in(field, pointer, 1);
                works(pointer, "C=-C" + f, abc(1, 2, 0), abc(1, 2, 0), 0);
                works(pointer, "C=-C" + f, abc(1, 2, one), abc(1, 2, most), 1);
                works(pointer, "C=-C" + f, abc(1, 2, most), abc(1, 2, one), 1);
                works(pointer, "C=-C-1" + f, abc(1, 2, 0), abc(1, 2, most), 1);
                works(pointer, "C=-C-1" + f, abc(1, 2, one), abc(1, 2, less), 1);
                works(pointer, "C=-C-1" + f, abc(1, 2, most), abc(1, 2, 0), 1);
            }
        }
    }

    private static void shiftLeft() {
        Check.about("20 A goes left by a digit (0 comes from below)");
        for (int field = 0; field < 8; field++) {
            for (int pointer : new int[] {0, 1, 6, 12, 13}) {
                long lowest = in(field, pointer, 9);
                works(pointer, "A<." + LETTERS.charAt(field), abc(FULL, FULL, FULL), abc(FULL - lowest, FULL, FULL), 0);
            }
        }
        works(0, "A<.w", abc(90000000000001L, 0, 0), abc(10, 0, 0), 0);
        works(0, "A<.m", abc(1900000000012L, 0, 0), abc(9000000000012L, 0, 0), 0);
        works(0, "A<.e", abc(555, 0, 0), abc(55, 0, 0), 0);
    }

    private static void shiftsRight() {
        Check.about("21 A, 22 B, 23 C goes right (0 comes from above)");
        for (int field = 0; field < 8; field++) {
            String f = "." + LETTERS.charAt(field);
            for (int pointer : new int[] {0, 1, 6, 12, 13}) {
                long rest = FULL - 9 * ten(highOf(field, pointer));
                works(pointer, "A>" + f, abc(FULL, FULL, FULL), abc(rest, FULL, FULL), 0);
                works(pointer, "B>" + f, abc(FULL, FULL, FULL), abc(FULL, rest, FULL), 0);
                works(pointer, "C>" + f, abc(FULL, FULL, FULL), abc(FULL, FULL, rest), 0);
            }
        }
        works(0, "A>.w", abc(10000000000009L, 0, 0), abc(1000000000000L, 0, 0), 0);
        works(0, "B>.n", abc(0, 70000000005321L, 0), abc(0, 7000000000321L, 0), 0);
        works(0, "C>.e", abc(0, 0, 5555), abc(0, 0, 5055), 0);
    }

    private static void lessIsNotEqual() {
        Check.about("24 nothing, the carry is 1 if A is less than B; 25 if A is less than C");
        for (int field = 0; field < 8; field++) {
            for (int pointer : new int[] {0, 1, 6, 12, 13}) {
                long most = in(field, pointer, most(field, pointer));
                long less = in(field, pointer, most(field, pointer) - 1);
                long one = in(field, pointer, 1);
                long[][] pairs = {{0, 0, 0}, {0, one, 1}, {one, 0, 0}, {one, one, 0}, {less, most, 1}, {most, less, 0},
                    {most, most, 0}, {0, most, 1}, {most, 0, 0}};
                for (long[] pair : pairs) {
                    long[] withB = abc(pair[0], pair[1], FULL);
                    works(pointer, "?A<B." + LETTERS.charAt(field), withB, withB, (int) pair[2]);
                    long[] withC = abc(pair[0], FULL, pair[1]);
                    works(pointer, "?A<C." + LETTERS.charAt(field), withC, withC, (int) pair[2]);
                }
            }
        }
    }

    private static void zeroAndNot0() {
        Check.about("26 if B isn't 0; 27 if C isn't 0; 28 if A is 0; 29 if C is 0");
        for (int field = 0; field < 8; field++) {
            String f = "." + LETTERS.charAt(field);
            for (int pointer : new int[] {0, 1, 6, 12, 13}) {
                int low = lowOf(field, pointer);
                int high = highOf(field, pointer);
                for (long part : new long[] {0, ten(low), ten(high), in(field, pointer, most(field, pointer))}) {
                    int isZero = part == 0 ? 1 : 0;
                    works(pointer, "?B" + f, abc(FULL, part, FULL), abc(FULL, part, FULL), 1 - isZero);
                    works(pointer, "?C" + f, abc(FULL, FULL, part), abc(FULL, FULL, part), 1 - isZero);
                    works(pointer, "?A=0" + f, abc(part, FULL, FULL), abc(part, FULL, FULL), isZero);
                    works(pointer, "?C=0" + f, abc(FULL, FULL, part), abc(FULL, FULL, part), isZero);
                }
            }
        }
    }

    private static void movesMakeNoCarry() {
        Check.about("the carry becomes 0, and then (a move or a shift has no sum and no difference)");
        String[] names = {"A=0", "B=0", "C=0", "A:B", "B=A", "A:C", "C=B", "B:C", "A<", "A>", "B>", "C>", "A=C"};
        for (String name : names) {
            for (int field = 0; field < 8; field++) {
                for (long filled : new long[] {0, FULL}) {
                    DigitChip chip = Check.chip("?p=0 " + name + "." + LETTERS.charAt(field));
                    Check.setAll(chip, filled, filled, filled);
                    Check.due("run(2)", chip.run(2), 2);
                    Check.due("carry behind " + name + "." + LETTERS.charAt(field), chip.state(2), 0);
                }
            }
        }
    }
}
