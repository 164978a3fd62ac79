/** Promises 5 and 6: word and poke. */
public final class MemoryTest {
    public static void main(String[] args) {
        DigitChip chip = new DigitChip();
        for (int place = 0; place < 64; place++) {
            Check.due("poke(" + place + ")", chip.poke(place, 1023 - place), true);
        }
        for (int place = 0; place < 64; place++) {
            Check.due("word(" + place + ")", chip.word(place), 1023 - place);
        }
        wrongPlaces(chip);
        wrongWords(chip);
        pokeChangesNothingElse();
        Check.end();
    }

    private static void wrongPlaces(DigitChip chip) {
        for (int place : new int[] {-1, 64, 65, 128, -64, Integer.MIN_VALUE, Integer.MAX_VALUE}) {
            Check.due("word(" + place + ")", chip.word(place), DigitChip.NONE);
            Check.due("poke(" + place + ", 0)", chip.poke(place, 0), false);
        }
        Check.due("word(0) behind wrong pokes", chip.word(0), 1023);
        Check.due("word(63) behind wrong pokes", chip.word(63), 960);
    }

    private static void wrongWords(DigitChip chip) {
        for (int word : new int[] {-1, 1024, 1025, 2048, Integer.MIN_VALUE, Integer.MAX_VALUE}) {
            Check.due("poke(5, " + word + ")", chip.poke(5, word), false);
            Check.due("word(5)", chip.word(5), 1018);
        }
        Check.due("poke(5, 0)", chip.poke(5, 0), true);
        Check.due("word(5)", chip.word(5), 0);
        Check.due("poke(5, 1023)", chip.poke(5, 1023), true);
        Check.due("word(5)", chip.word(5), 1023);
    }

    private static void pokeChangesNothingElse() {
        DigitChip chip = Check.chip("@s :s s1+ ?s1 no");
        chip.run(3);
        chip.key(2);
        Check.setAll(chip, 1, 2, 3, 4, 5, 6, 7);
        chip.type('p');
        Check.due("poke(3, 52)", chip.poke(3, 52), true);
        Check.words(chip, "behind poke", 5, 76, 84, 52);
        Check.states(chip, "behind poke", 0, 2, 1, 3, 1);
        Check.values(chip, "behind poke", 1, 2, 3, 4, 5, 6, 7);
        Check.due("keys() behind poke", chip.keys(), 1);
        Check.assembles(chip, "+", 1);
    }
}
