/** Promises 7 and 8: key and keys. */
public final class KeysTest {
    public static void main(String[] args) {
        everyKey();
        wrongKeys();
        firstComesFirst();
        Check.end();
    }

    private static void everyKey() {
        for (int k = 0; k < 16; k++) {
            DigitChip chip = Check.chip("key");
            Check.due("key(" + k + ")", chip.key(k), true);
            Check.due("keys()", chip.keys(), 1);
            Check.due("run(1) with a key", chip.run(1), 1);
            Check.due("keys() behind it", chip.keys(), 0);
            Check.due("place of key " + k, chip.state(3), k * 8 % 64);
        }
    }

    private static void wrongKeys() {
        DigitChip chip = new DigitChip();
        for (int k : new int[] {-1, 16, 17, 64, Integer.MIN_VALUE, Integer.MAX_VALUE}) {
            Check.due("key(" + k + ")", chip.key(k), false);
            Check.due("keys()", chip.keys(), 0);
        }
        for (int waiting = 1; waiting <= 3; waiting++) {
            Check.due("key number " + waiting, chip.key(15), true);
            Check.due("keys()", chip.keys(), waiting);
        }
        Check.due("a fourth key", chip.key(0), false);
        Check.due("keys()", chip.keys(), 3);
    }

    private static void firstComesFirst() {
        DigitChip chip = Check.chip("key");
        chip.key(3);
        chip.key(1);
        chip.key(2);
        chip.key(7);
        chip.run(1);
        Check.due("place of the first key", chip.state(3), 24);
        Check.due("a key behind two", chip.key(5), true);
        for (int k : new int[] {1, 2, 5}) {
            chip.go(0);
            chip.run(1);
            Check.due("place of key " + k, chip.state(3), k * 8);
        }
        Check.due("keys() at last", chip.keys(), 0);
    }
}
