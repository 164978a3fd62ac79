/** The promises 1 and 5 to 13: what is too small, too large, empty, full or refused. */
public final class CallBoundaryTest {
    private static final long FULL = 99999999999999L;

    /** A chip with nothing 0, with keys 5 and 6 waiting, and with a text begun. */
    private static DigitChip busy() {
        DigitChip chip = Words.busy();
        chip.type('p');
        return chip;
    }

    /** The waiting keys and the begun text are as busy made them; this changes them. */
    private static void keysAndTextStayed(DigitChip chip) {
        for (int k : new int[] {5, 6}) {
            chip.poke(9, 48);
            chip.go(9);
            chip.run(1);
            Check.due("place of the key that stayed", chip.state(3), k * 8);
        }
        Check.due("keys()", chip.keys(), 0);
        Check.assembles(chip, "+", 1);
        Check.due("word(0) of the text that stayed", chip.word(0), 28);
    }

    public static void main(String[] args) {
        newObjectIsAll0();
        newObjectHasNoKeyAndNoText();
        objectsDoNotShare();
        wordOutsideThePlaces();
        pokeOutsideThePlaces();
        pokeOutsideTheWords();
        pokeAtTheEdges();
        pokeChangesNothingElse();
        keyOutside0To15();
        keyBehindThree();
        keysFrom0To3();
        runOutside0To400();
        runOfNoWord();
        runOf400Words();
        runCountsTheEndingWord();
        runEndsByItsLastWord();
        nextRunGoesOn();
        runEndsByKeyOnlyWithoutOne();
        valueOutsideTheRegisters();
        valueOfFourteenDigits();
        setOutsideTheRegisters();
        setBelow0();
        setLowestFourteenDigits();
        setChangesNothingElse();
        stateOfAnotherWhat();
        stateOfStatusBits();
        goOutsideThePlaces();
        goToTheEdges();
        looksChangeNothing();
        holdsFor512Calls();
        Check.end();
    }

    private static void newObjectIsAll0() {
        Check.about("Promise 1: All is 0");
        DigitChip chip = new DigitChip();
        Check.words(chip, "of a new object");
        Check.values(chip, "of a new object", 0, 0, 0, 0, 0, 0, 0);
        Check.states(chip, "of a new object", 0, 0, 0, 0, 0);
        busy();
        chip = new DigitChip();
        Check.words(chip, "of a new object beside another");
        Check.values(chip, "of a new object beside another", 0, 0, 0, 0, 0, 0, 0);
        Check.states(chip, "of a new object beside another", 0, 0, 0, 0, 0);
    }

    private static void newObjectHasNoKeyAndNoText() {
        Check.about("Promise 1: no key waits, no text");
        busy();
        DigitChip chip = Words.at(63, 48);
        Check.due("keys()", chip.keys(), 0);
        Check.due("run(9) without a key", chip.run(9), 1);
        Check.due("place behind key without one", chip.state(3), 63);
        Check.due("illAt()", chip.illAt(), DigitChip.NONE);
        Check.assembles(chip, "", 0);
    }

    private static void objectsDoNotShare() {
        Check.about("Promise 1: A new object (what is done with one is not done with another)");
        DigitChip one = new DigitChip();
        DigitChip other = new DigitChip();
        String[] texts = {"key p+ :a >a", "no key :b @b"};
        for (int i = 0; i < texts[0].length(); i++) {
            one.type(texts[0].charAt(i));
            other.type(texts[1].charAt(i));
        }
        Check.assembles(one, "", 3);
        Check.assembles(other, "", 3);
        for (int i = 0; i < 3; i++) {
            one.key(1 + i);
            other.key(4 + i);
        }
        Check.setAll(one, 1, 2, 3, 4, 5, 6, 7);
        Check.setAll(other, 8, 9, 10, 11, 12, 13, 14);
        Check.words(one, "of one object", 48, 28, 11);
        Check.words(other, "of the other object", 0, 48, 9);
        for (int i = 0; i < 3; i++) {
            one.go(0);
            other.go(1);
            Check.due("run(1) of one object", one.run(1), 1);
            Check.due("run(1) of the other object", other.run(1), 1);
            Check.due("place of one object", one.state(3), 8 + 8 * i);
            Check.due("place of the other object", other.state(3), 32 + 8 * i);
        }
        Check.values(one, "of one object", 1, 2, 3, 4, 5, 6, 7);
        Check.values(other, "of the other object", 8, 9, 10, 11, 12, 13, 14);
        Check.isIll(one, "no x", 3);
        Check.due("illAt() of the other object", other.illAt(), DigitChip.NONE);
    }

    private static final int[] NO_PLACES =
        {-1, -2, -63, -64, 64, 65, 127, 128, 256, 1 << 16, Integer.MIN_VALUE, Integer.MIN_VALUE + 1, Integer.MAX_VALUE};

    private static void wordOutsideThePlaces() {
        Check.about("Promise 5: The word at a place; NONE if there is none such");
        DigitChip chip = new DigitChip();
        chip.poke(0, 5);
        chip.poke(63, 1023);
        Check.due("word(0)", chip.word(0), 5);
        Check.due("word(63)", chip.word(63), 1023);
        for (int place : NO_PLACES) {
            Check.due("word(" + place + ")", chip.word(place), DigitChip.NONE);
        }
    }

    private static void pokeOutsideThePlaces() {
        Check.about("Promise 6: false if there is no such place");
        DigitChip chip = busy();
        long[] before = Check.seen(chip);
        for (int place : NO_PLACES) {
            for (int word : new int[] {0, 1, 1023, 1024, -1}) {
                Check.due("poke(" + place + ", " + word + ")", chip.poke(place, word), false);
            }
        }
        Check.same(chip, "behind refused pokes", before);
        keysAndTextStayed(chip);
    }

    private static void pokeOutsideTheWords() {
        Check.about("Promise 6: false if there is no such word");
        DigitChip chip = busy();
        long[] before = Check.seen(chip);
        for (int word : new int[] {-1, -2, -1024, 1024, 1025, 2047, 2048, 65536, Integer.MIN_VALUE, Integer.MAX_VALUE}) {
            for (int place : new int[] {0, 1, 30, 63}) {
                Check.due("poke(" + place + ", " + word + ")", chip.poke(place, word), false);
            }
        }
        Check.same(chip, "behind refused pokes", before);
        keysAndTextStayed(chip);
    }

    private static void pokeAtTheEdges() {
        Check.about("Promise 6: A word is put into the memory");
        DigitChip chip = new DigitChip();
        for (int place : new int[] {0, 1, 62, 63}) {
            for (int word : new int[] {1023, 1022, 512, 1, 0}) {
                Check.due("poke(" + place + ", " + word + ")", chip.poke(place, word), true);
                Check.due("word(" + place + ")", chip.word(place), word);
            }
        }
        for (int word = 0; word < 1024; word++) {
            chip = new DigitChip();
            Check.due("poke(9, " + word + ")", chip.poke(9, word), true);
            Check.due("word(9)", chip.word(9), word);
            Check.due("word(8)", chip.word(8), 0);
            Check.due("word(10)", chip.word(10), 0);
        }
    }

    private static void pokeChangesNothingElse() {
        Check.about("Promise 6: (nothing else changes)");
        for (int place : new int[] {0, 7, 8, 63}) {
            DigitChip chip = busy();
            long[] before = Check.seen(chip);
            Check.due("poke(" + place + ", 77)", chip.poke(place, 77), true);
            before[place] = 77;
            Check.same(chip, "behind poke", before);
            keysAndTextStayed(chip);
        }
    }

    private static void keyOutside0To15() {
        Check.about("Promise 7: A key 0 .. 15 comes; false if it is none such");
        for (int waiting = 0; waiting < 3; waiting++) {
            DigitChip chip = new DigitChip();
            for (int i = 0; i < waiting; i++) {
                chip.key(4 + i);
            }
            for (int k : new int[] {-1, -16, 16, 17, 31, 32, 64, 256, Integer.MIN_VALUE, Integer.MAX_VALUE}) {
                Check.due("key(" + k + ")", chip.key(k), false);
                Check.due("keys()", chip.keys(), waiting);
            }
            Words.next(chip, 0, 48);
            Check.due("run(1)", chip.run(1), 1);
            Check.due("place behind it", chip.state(3), waiting == 0 ? 0 : 32);
        }
        for (int k = 0; k < 16; k++) {
            DigitChip chip = new DigitChip();
            Check.due("key(" + k + ")", chip.key(k), true);
            Check.due("keys()", chip.keys(), 1);
        }
    }

    private static void keyBehindThree() {
        Check.about("Promise 7: false if three wait");
        DigitChip chip = Words.at(0, 48);
        Check.due("a first key", chip.key(1), true);
        Check.due("a second key", chip.key(2), true);
        Check.due("a third key", chip.key(3), true);
        for (int k = -1; k <= 16; k++) {
            Check.due("a fourth key " + k, chip.key(k), false);
            Check.due("keys()", chip.keys(), 3);
        }
        for (int k : new int[] {1, 2, 3}) {
            chip.go(0);
            chip.run(1);
            Check.due("place of a key that waited", chip.state(3), k * 8);
            Check.due("a key where one is gone", chip.key(7), true);
            Check.due("a key behind three", chip.key(6), false);
        }
        for (int i = 0; i < 3; i++) {
            chip.go(0);
            chip.run(1);
            Check.due("place of a key that came later", chip.state(3), 56);
        }
        Check.due("keys()", chip.keys(), 0);
    }

    private static void keysFrom0To3() {
        Check.about("Promise 8: How many keys wait");
        DigitChip chip = Words.at(0, 48);
        int[] comes = {1, 1, 0, 1, 1, 1, 1, 0, 0, 0, 0, 1};
        int[] want = {1, 2, 1, 2, 3, 3, 3, 2, 1, 0, 0, 1};
        for (int i = 0; i < comes.length; i++) {
            if (comes[i] == 1) {
                chip.key(9);
            } else {
                chip.go(0);
                chip.run(1);
            }
            Check.due("keys() behind step " + i, chip.keys(), want[i]);
            Check.due("keys() again", chip.keys(), want[i]);
        }
    }

    private static void runOutside0To400() {
        Check.about("Promise 9: IllegalArgumentException: n isn't 0 .. 400");
        DigitChip chip = busy();
        long[] before = Check.seen(chip);
        for (int n : new int[] {-1, -2, -400, 401, 402, 512, 1000, 65536, Integer.MIN_VALUE, Integer.MAX_VALUE}) {
            Check.runIsRefused(chip, n);
        }
        Check.same(chip, "behind refused runs", before);
        keysAndTextStayed(chip);
    }

    private static void runOfNoWord() {
        Check.about("Promise 9: Does up to n words (n is 0)");
        DigitChip chip = busy();
        long[] before = Check.seen(chip);
        Check.due("run(0)", chip.run(0), 0);
        Check.same(chip, "behind run(0)", before);
        chip.poke(7, 52);
        before[7] = 52;
        Check.due("run(0) at stop", chip.run(0), 0);
        Check.same(chip, "behind run(0) at stop", before);
        chip.poke(7, 48);
        before[7] = 48;
        Check.due("run(0) at key", chip.run(0), 0);
        Check.same(chip, "behind run(0) at key", before);
        keysAndTextStayed(chip);
    }

    private static void runOf400Words() {
        Check.about("Promise 9: Does up to n words: how many");
        for (int n = 0; n <= 400; n++) {
            DigitChip chip = new DigitChip();
            Check.due("poke(0, 28)", chip.poke(0, 28), true);
            Check.due("run(" + n + ")", chip.run(n), n);
            // One of 64 words counts the pointer up.
            Check.states(chip, "behind run(" + n + ")", (n + 63) / 64, 0, 0, n % 64, 0);
        }
        DigitChip chip = Words.at(5, Words.jumpTo(5));
        Check.due("run(400) of a jump to itself", chip.run(400), 400);
        Check.due("run(400) of it again", chip.run(400), 400);
    }

    private static void runCountsTheEndingWord() {
        Check.about("Promise 9: until a run ends: how many (the one that ends it, too)");
        for (int ending : new int[] {48, 52}) {
            for (int place = 0; place < 64; place++) {
                DigitChip chip = new DigitChip();
                chip.poke(place, ending);
                if (place > 0) {
                    Check.due("run(" + place + ") to before the end", chip.run(place), place);
                    chip.go(0);
                }
                Check.due("run(" + (place + 1) + ") to the end", chip.run(place + 1), place + 1);
                chip.go(0);
                Check.due("run(400) over the end", chip.run(400), place + 1);
            }
        }
    }

    private static void runEndsByItsLastWord() {
        Check.about("Promise 9: Does up to n words, until a run ends (both at the 400th word)");
        // A counts 199 times down, by two words each time; with the first word and the last one, 400 are done.
        DigitChip chip = Check.chip("no :a A=A-1.x >a stop p+");
        chip.set(0, 198);
        Check.due("run(400) to stop", chip.run(400), 400);
        Check.states(chip, "behind the 400th word", 0, 0, 0, 4, 0);
        chip.set(0, 198);
        chip.go(0);
        Check.due("run(399) to before stop", chip.run(399), 399);
        Check.due("place", chip.state(3), 3);
        Check.due("run(400) at stop", chip.run(400), 1);
        chip.set(0, 199);
        chip.go(0);
        Check.due("run(400) to before stop", chip.run(400), 400);
        Check.due("run(400) behind it", chip.run(400), 2);
        Check.due("place", chip.state(3), 4);
    }

    private static void nextRunGoesOn() {
        Check.about("Promise 9: (the next run goes on at the place there is then)");
        DigitChip chip = Check.chip("p+ stop p+ stop p+ stop");
        for (int i = 1; i <= 3; i++) {
            Check.due("run(400)", chip.run(400), 2);
            Check.states(chip, "behind stop " + i, i, 0, 0, 2 * i, 0);
        }
        chip = new DigitChip();
        chip.poke(63, 52);
        Check.due("run(400) to stop at 63", chip.run(400), 64);
        Check.due("place", chip.state(3), 0);
        Check.due("run(400) to it again", chip.run(400), 64);
        chip = Check.chip("no key");
        Check.due("run(400) to key", chip.run(400), 2);
        Check.due("run(400) at key", chip.run(400), 1);
        chip.key(2);
        Check.due("run(2) at key with one", chip.run(2), 2);
        Check.due("place", chip.state(3), 17);
    }

    private static void runEndsByKeyOnlyWithoutOne() {
        Check.about("Promise 9: until a run ends (by key only if no key waits)");
        DigitChip chip = new DigitChip();
        for (int place : new int[] {0, 8, 16, 24}) {
            chip.poke(place, 48);
        }
        chip.key(1);
        chip.key(2);
        chip.key(3);
        Check.due("run(400) with three keys", chip.run(400), 4);
        Check.states(chip, "behind three keys", 0, 0, 0, 24, 0);
        Check.due("keys()", chip.keys(), 0);
    }

    private static final int[] NO_REGISTERS = {-1, -2, -7, 7, 8, 14, 64, 256, Integer.MIN_VALUE, Integer.MAX_VALUE};

    private static void valueOutsideTheRegisters() {
        Check.about("Promise 10: NONE if there is none");
        DigitChip chip = busy();
        for (int register : NO_REGISTERS) {
            Check.due("value(" + register + ")", chip.value(register), DigitChip.NONE);
        }
        Check.due("value(0)", chip.value(0), 1);
        Check.due("value(6)", chip.value(6), 7);
    }

    private static void valueOfFourteenDigits() {
        Check.about("Promise 10: A register as a number of (at most) fourteen digits");
        for (int register = 0; register < 7; register++) {
            DigitChip chip = new DigitChip();
            Check.due("value(" + register + ") of none", chip.value(register), 0);
            for (long v : new long[] {1, 9, 10, 2147483647L, 2147483648L, 4294967296L, 10000000000000L, FULL}) {
                chip.set(register, v);
                Check.due("value(" + register + ")", chip.value(register), v);
            }
        }
    }

    private static void setOutsideTheRegisters() {
        Check.about("Promise 11: false if there is none (no such register)");
        DigitChip chip = busy();
        long[] before = Check.seen(chip);
        for (int register : NO_REGISTERS) {
            for (long v : new long[] {0, 5, FULL, -1}) {
                Check.due("set(" + register + ", " + v + ")", chip.set(register, v), false);
            }
        }
        Check.same(chip, "behind refused sets", before);
        keysAndTextStayed(chip);
    }

    private static void setBelow0() {
        Check.about("Promise 11: false if v is below 0");
        DigitChip chip = busy();
        long[] before = Check.seen(chip);
        for (int register = 0; register < 7; register++) {
            for (long v : new long[] {-1, -2, -FULL, -FULL - 1, -4294967296L, Long.MIN_VALUE, Long.MIN_VALUE + 1}) {
                Check.due("set(" + register + ", " + v + ")", chip.set(register, v), false);
            }
        }
        Check.same(chip, "behind refused sets", before);
        for (int register = 0; register < 7; register++) {
            Check.due("set(" + register + ", 0)", chip.set(register, 0), true);
            Check.due("value(" + register + ")", chip.value(register), 0);
        }
    }

    private static void setLowestFourteenDigits() {
        Check.about("Promise 11: A register becomes the lowest fourteen digits of v");
        long[][] pairs = {
            {FULL, FULL}, {FULL + 1, 0}, {FULL + 2, 1}, {2 * FULL + 1, FULL}, {999999999999999L, FULL},
            {123456789012345L, 23456789012345L}, {1000000000000000000L, 0}, {9000000000000000001L, 1},
            {Long.MAX_VALUE - 1, 72036854775806L}, {Long.MAX_VALUE, 72036854775807L}
        };
        for (int register = 0; register < 7; register++) {
            DigitChip chip = new DigitChip();
            for (long[] pair : pairs) {
                Check.due("set(" + register + ", " + pair[0] + ")", chip.set(register, pair[0]), true);
                Check.due("value(" + register + ")", chip.value(register), pair[1]);
            }
        }
        // What is above the fourteen digits is gone for the words, too.
        DigitChip chip = Check.chip("?A=0.w A=A-1.w");
        chip.set(0, FULL + 1);
        chip.run(1);
        Check.due("carry of ?A=0.w", chip.state(2), 1);
        chip.run(1);
        Check.due("value(0)", chip.value(0), FULL);
    }

    private static void setChangesNothingElse() {
        Check.about("Promise 11: A register becomes (that, and no other one)");
        for (int register = 0; register < 7; register++) {
            DigitChip chip = busy();
            long[] before = Check.seen(chip);
            Check.due("set(" + register + ")", chip.set(register, FULL), true);
            before[64 + register] = FULL;
            Check.same(chip, "behind set", before);
            keysAndTextStayed(chip);
        }
    }

    private static void stateOfAnotherWhat() {
        Check.about("Promise 12: NONE for another what");
        DigitChip chip = busy();
        Check.states(chip, "of a busy chip", 6, 4, 1, 7, 2);
        for (int what : new int[] {-1, -2, -5, 5, 6, 7, 8, 64, 256, Integer.MIN_VALUE, Integer.MAX_VALUE}) {
            Check.due("state(" + what + ")", chip.state(what), DigitChip.NONE);
        }
    }

    private static void stateOfStatusBits() {
        Check.about("Promise 12: 1 the status bits (bit n for n)");
        for (int n = 0; n < 12; n++) {
            DigitChip chip = new DigitChip();
            Words.doOne(chip, Words.plain(Words.STATUS_ON, n));
            Check.due("state(1) with bit " + n, chip.state(1), 1 << n);
            Words.doOne(chip, Words.plain(Words.STATUS_ON, n));
            Check.due("state(1) with bit " + n + " again", chip.state(1), 1 << n);
            Words.doOne(chip, Words.plain(Words.STATUS_OFF, n));
            Words.doOne(chip, Words.plain(Words.STATUS_OFF, n));
            Check.due("state(1) without bit " + n, chip.state(1), 0);
        }
    }

    private static void goOutsideThePlaces() {
        Check.about("Promise 13: false if there is none such");
        DigitChip chip = busy();
        long[] before = Check.seen(chip);
        for (int place : NO_PLACES) {
            Check.due("go(" + place + ")", chip.go(place), false);
        }
        Check.same(chip, "behind refused goes", before);
        keysAndTextStayed(chip);
    }

    private static void goToTheEdges() {
        Check.about("Promise 13: The place of the next word becomes that");
        for (int place : new int[] {0, 1, 31, 62, 63}) {
            DigitChip chip = busy();
            long[] before = Check.seen(chip);
            Check.due("go(" + place + ")", chip.go(place), true);
            before[74] = place;
            Check.same(chip, "behind go", before);
            chip.poke(place, Words.plain(Words.POINTER_UP, 0));
            Check.due("run(1)", chip.run(1), 1);
            Check.states(chip, "behind the word there", 7, 4, 0, (place + 1) % 64, 2);
            keysAndTextStayed(chip);
        }
    }

    private static void looksChangeNothing() {
        Check.about("word, illAt, keys, value, state, display: they answer, and change nothing");
        DigitChip chip = busy();
        long[] before = Check.seen(chip);
        for (int place = -1; place <= 15; place++) {
            chip.display(place);
            chip.word(place);
            chip.state(place);
            chip.value(place);
        }
        Check.same(chip, "behind looks", before);
        keysAndTextStayed(chip);
    }

    private static void holdsFor512Calls() {
        Check.about("An object is used for at most 512 calls after it has been made");
        DigitChip chip = new DigitChip();
        chip.poke(0, Words.field(11, 7));
        chip.poke(1, Words.jumpTo(0));
        for (int calls = 2; calls < 511; calls++) {
            Check.due("run(400) as call " + (calls + 1), chip.run(400), 400);
        }
        Check.due("value(0) as the 512th call", chip.value(0), 509 * 200);
        chip = new DigitChip();
        for (int calls = 0; calls < 511; calls += 7) {
            for (char c : "no x".toCharArray()) {
                Check.due("type in call " + (calls + 1), chip.type(c), true);
            }
            Check.isIll(chip, "", 3);
            Check.due("poke", chip.poke(calls % 64, calls), true);
        }
        Check.due("word as the 512th call", chip.word(0), 448);
    }
}
