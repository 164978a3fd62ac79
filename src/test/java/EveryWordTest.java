import java.util.Random;

/** Every word with every pointer and both carries, once on the chip and once on its model, from many states. */
public final class EveryWordTest {
    private static final long FULL = 99999999999999L;
    private static final int[] PLACES = {0, 1, 31, 62, 63};

    private final Random random;
    private final DigitChip chip = new DigitChip();
    private final Model model = new Model();

    private EveryWordTest(long seed) {
        random = new Random(seed);
    }

    public static void main(String[] args) {
        for (int word = 0; word < 1024; word++) {
            for (int pointer = 0; pointer < 14; pointer++) {
                for (int carry = 0; carry < 2; carry++) {
                    new EveryWordTest(word * 64L + pointer * 2 + carry).doWord(word, pointer, carry);
                }
            }
        }
        Check.end();
    }

    private void doWord(int word, int pointer, int carry) {
        setRegisters();
        pressKeys();
        prepare(Words.callOf(random.nextInt(64)));
        for (int i = 0; i < 4; i++) {
            prepare(Words.plain(Words.STATUS_ON, random.nextInt(12)));
        }
        prepare(Words.plain(Words.POINTER_IS, pointer));
        prepare(Words.plain(Words.IS_POINTER, carry == 1 ? pointer : 15));
        int place = PLACES[random.nextInt(PLACES.length)];
        put(place, word);
        Check.due("state before", chip.state(2), carry);
        int n = 1 + random.nextInt(2);
        String when = "behind word " + word + " at " + place + " with pointer " + pointer + " and carry " + carry;
        Check.due("run(" + n + ") " + when, chip.run(n), model.run(n));
        compare(when);
    }

    private void setRegisters() {
        for (int register = 0; register < 7; register++) {
            long v = someNumber();
            // Often two registers are the same, or nearly so.
            if (register > 0 && random.nextInt(4) == 0) {
                v = Math.max(0, chip.value(register - 1) + random.nextInt(3) - 1);
            }
            Check.due("set", chip.set(register, v), model.set(register, v));
        }
    }

    private long someNumber() {
        switch (random.nextInt(8)) {
            case 0: return 0;
            case 1: return FULL;
            case 2: return (long) Math.pow(10, random.nextInt(14)) * random.nextInt(10);
            case 3: return FULL - (long) Math.pow(10, random.nextInt(14)) * random.nextInt(10);
            case 4: return 99999000000999L;
            default: return Math.floorMod(random.nextLong(), FULL + 1);
        }
    }

    private void pressKeys() {
        int keys = random.nextInt(4);
        for (int i = 0; i < keys; i++) {
            int k = random.nextInt(16);
            Check.due("key", chip.key(k), model.key(k));
        }
    }

    private void put(int place, int word) {
        Check.due("poke", chip.poke(place, word), model.poke(place, word));
        Check.due("go", chip.go(place), model.go(place));
    }

    private void prepare(int word) {
        put(random.nextInt(64), word);
        Check.due("run(1)", chip.run(1), model.run(1));
    }

    private void compare(String when) {
        for (int what = 0; what < 5; what++) {
            Check.due("state(" + what + ") " + when, chip.state(what), model.state(what));
        }
        for (int register = 0; register < 7; register++) {
            Check.due("value(" + register + ") " + when, chip.value(register), model.value(register));
        }
        for (int place = 0; place < 15; place++) {
            Check.due("display(" + place + ") " + when, chip.display(place), model.display(place));
        }
        for (int place = 0; place < 64; place++) {
            Check.due("word(" + place + ") " + when, chip.word(place), model.word(place));
        }
        Check.due("keys() " + when, chip.keys(), model.keys.size());
    }
}
