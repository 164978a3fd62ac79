/** Promises 12 and 13: state and go. */
public final class StateTest {
    public static void main(String[] args) {
        DigitChip chip = Check.chip("no @s no :s p=c s0+ sb+ s5+ ?sb");
        Check.due("run(7)", chip.run(7), 7);
        Check.states(chip, "behind the run", 12, 1 + 32 + 2048, 1, 8, 2);
        for (int what : new int[] {-1, 5, 6, 64, Integer.MIN_VALUE, Integer.MAX_VALUE}) {
            Check.due("state(" + what + ")", chip.state(what), DigitChip.NONE);
        }
        goes(chip);
        goOnlyMovesThePlace(chip);
        Check.end();
    }

    private static void goes(DigitChip chip) {
        for (int place = 0; place < 64; place++) {
            Check.due("go(" + place + ")", chip.go(place), true);
            Check.due("place", chip.state(3), place);
        }
        chip.go(17);
        for (int place : new int[] {-1, 64, 65, Integer.MIN_VALUE, Integer.MAX_VALUE}) {
            Check.due("go(" + place + ")", chip.go(place), false);
            Check.due("place", chip.state(3), 17);
        }
    }

    private static void goOnlyMovesThePlace(DigitChip chip) {
        Check.due("go(3)", chip.go(3), true);
        Check.states(chip, "behind go", 12, 2081, 1, 3, 2);
        chip.run(1);
        Check.states(chip, "behind the word there", 12, 2081, 0, 4, 2);
    }
}
