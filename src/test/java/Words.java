/** Makes words by their numbers, and chips that are about to do one. */
final class Words {
    static final int NOTHING = 0;
    static final int POINTER_IS = 1;
    static final int IS_POINTER = 2;
    static final int STATUS_ON = 3;
    static final int STATUS_OFF = 4;
    static final int IS_STATUS = 5;
    static final int DIGIT = 6;
    static final int POINTER_UP = 7;
    static final int POINTER_DOWN = 8;
    static final int BACK = 11;
    static final int KEY = 12;
    static final int STOP = 13;

    private Words() {
    }

    static int plain(int operation, int n) {
        return n * 64 + operation * 4;
    }

    static int field(int operation, int field) {
        return operation * 32 + field * 4 + 2;
    }

    static int callOf(int place) {
        return place * 4 + 1;
    }

    static int jumpTo(int place) {
        return place * 4 + 3;
    }

    /** A new chip, all 0, that does this word at this place next. */
    static DigitChip at(int place, int word) {
        DigitChip chip = new DigitChip();
        next(chip, place, word);
        return chip;
    }

    /** As at, but with this pointer; the word that sets it is gone. */
    static DigitChip atPointer(int pointer, int word) {
        DigitChip chip = new DigitChip();
        doOne(chip, plain(POINTER_IS, pointer));
        next(chip, 0, word);
        return chip;
    }

    /** As at, but with the carry 1; the word that sets it is gone. */
    static DigitChip atWithCarry(int place, int word) {
        DigitChip chip = new DigitChip();
        doOne(chip, plain(IS_POINTER, 0));
        Check.due("carry before the word", chip.state(2), 1);
        next(chip, place, word);
        return chip;
    }

    static void next(DigitChip chip, int place, int word) {
        Check.due("poke(" + place + ", " + word + ")", chip.poke(place, word), true);
        Check.due("go(" + place + ")", chip.go(place), true);
    }

    /** Does one word, that stands at place 0 for it. */
    static void doOne(DigitChip chip, int word) {
        next(chip, 0, word);
        Check.due("run(1) of word " + word, chip.run(1), 1);
        Check.due("poke(0, 0)", chip.poke(0, 0), true);
    }

    /** A chip whose registers and states are none of them 0, with words at both ends of its memory and two keys. */
    static DigitChip busy() {
        DigitChip chip = Check.chip("no @s no :s p=7 s2+ l9 ?s2");
        Check.setAll(chip, 1, 2, 3, 4, 5, 6, 7);
        Check.due("run(6)", chip.run(6), 6);
        chip.key(5);
        chip.key(6);
        chip.poke(0, 1000);
        chip.poke(63, 1023);
        Check.states(chip, "of the busy chip", 6, 4, 1, 7, 2);
        return chip;
    }
}
