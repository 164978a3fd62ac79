/** "Terms": the boundaries of the pointer, the status bits, the places and the words of the kinds 0, 1 and 3. */
public final class WordBoundaryTest {
    private static final long FULL = 99999999999999L;

    public static void main(String[] args) {
        pointerGoesFrom0To13();
        statusBitsAreTwelve();
        placesGoFrom0To63();
        backPlaceIs0AtFirst();
        wordsGoFrom0To1023();
        placeBehind63Is0();
        carryBecomes0();
        callKeepsThePlaceBehindIt();
        callGoesToThePlaceMod64();
        jumpLooksAtTheCarryBefore();
        jumpGoesToThePlaceMod64();
        pointerBecomesNMod14();
        pointerIsN();
        statusBitsAbove11AreNothing();
        digitIsNMod10();
        digitLowersThePointer();
        pointerAbove13Is0();
        pointerBelow0Is13();
        pushLosesF();
        popLeavesF();
        downLeavesF();
        exchangeKeepsBoth();
        backGoesToTheBackPlace();
        keyGoesTo8TimesItsNumberMod64();
        keyTakesTheFirstOne();
        keyWithoutOneStays();
        stopEndsTheRun();
        Check.end();
    }

    private static void pointerGoesFrom0To13() {
        Check.about("The POINTER is 0 .. 13");
        DigitChip chip = new DigitChip();
        for (int pointer = 0; pointer < 14; pointer++) {
            Check.due("pointer going up", chip.state(0), pointer);
            Words.doOne(chip, Words.plain(Words.POINTER_UP, 0));
        }
        for (int pointer = 14; pointer > 0; pointer--) {
            Check.due("pointer going down", chip.state(0), pointer % 14);
            Words.doOne(chip, Words.plain(Words.POINTER_DOWN, 0));
        }
        Check.due("pointer at last", chip.state(0), 0);
    }

    private static void statusBitsAreTwelve() {
        Check.about("there are 12 STATUS bits");
        DigitChip chip = new DigitChip();
        for (int n = 0; n < 16; n++) {
            Words.doOne(chip, Words.plain(Words.STATUS_ON, n));
            Check.due("status bits behind s+ of " + n, chip.state(1), n < 12 ? (2 << n) - 1 : 4095);
        }
        for (int n = 15; n >= 0; n--) {
            Words.doOne(chip, Words.plain(Words.STATUS_OFF, n));
            Check.due("status bits behind s- of " + n, chip.state(1), n < 12 ? (1 << n) - 1 : 4095);
        }
    }

    private static void placesGoFrom0To63() {
        Check.about("the PLACE of the next word, 0 .. 63");
        DigitChip chip = new DigitChip();
        for (int word = 0; word < 130; word++) {
            Check.due("place before word " + word, chip.state(3), word % 64);
            Check.due("run(1)", chip.run(1), 1);
        }
    }

    private static void backPlaceIs0AtFirst() {
        Check.about("the BACK place. At first all is 0");
        DigitChip chip = Words.at(20, Words.plain(Words.BACK, 0));
        Check.due("run(1)", chip.run(1), 1);
        Check.states(chip, "behind back without a call", 0, 0, 0, 0, 0);
    }

    private static void wordsGoFrom0To1023() {
        Check.about("A WORD is 0 .. 1023; its KIND are its lowest two bits");
        DigitChip chip = Words.at(0, 0);
        Check.due("run(1) of the least word", chip.run(1), 1);
        Check.states(chip, "behind the least word", 0, 0, 0, 1, 0);
        chip = Words.at(0, 1020);
        Check.setAll(chip, 1, 2, 3, 4, 5, 6, 7);
        Check.due("run(1) of the greatest word of kind 0", chip.run(1), 1);
        Check.values(chip, "behind the greatest word of kind 0", 3, 2, 4, 5, 6, 6, 7);
        Check.states(chip, "behind the greatest word of kind 0", 0, 0, 0, 1, 0);
        chip = Words.at(0, 1021);
        Check.due("run(1) of the greatest word of kind 1", chip.run(1), 1);
        Check.states(chip, "behind the greatest word of kind 1", 0, 0, 0, 63, 1);
        chip = Words.at(0, 1022);
        Check.setAll(chip, 1, 2, FULL, 4, 5, 6, 7);
        Check.due("run(1) of the greatest word of kind 2", chip.run(1), 1);
        Check.values(chip, "behind the greatest word of kind 2", FULL, 2, FULL, 4, 5, 6, 7);
        Check.states(chip, "behind the greatest word of kind 2", 0, 0, 0, 1, 0);
        chip = Words.at(0, 1023);
        Check.due("run(1) of the greatest word", chip.run(1), 1);
        Check.states(chip, "behind the greatest word", 0, 0, 0, 63, 0);
    }

    private static void placeBehind63Is0() {
        Check.about("the place becomes 1 more (behind 63 it is 0)");
        for (int word : new int[] {0, 28, 52, Words.field(11, 7), Words.field(26, 0)}) {
            for (int place : new int[] {0, 1, 62, 63}) {
                DigitChip chip = Words.at(place, word);
                Check.due("run(1)", chip.run(1), 1);
                Check.due("place behind word " + word + " at " + place, chip.state(3), place == 63 ? 0 : place + 1);
            }
        }
        DigitChip chip = Words.atWithCarry(63, Words.jumpTo(5));
        Check.due("run(1)", chip.run(1), 1);
        Check.due("place behind a jump at 63 that isn't done", chip.state(3), 0);
        chip = Words.at(62, Words.plain(Words.POINTER_UP, 0));
        chip.poke(63, 28);
        chip.poke(0, 28);
        Check.due("run(3) over the end", chip.run(3), 3);
        Check.states(chip, "behind a run over the end", 3, 0, 0, 1, 0);
    }

    private static void carryBecomes0() {
        Check.about("the carry becomes 0");
        for (int word = 0; word < 1024; word++) {
            // With all 0 and the pointer 0, only these words make a carry of their own.
            int operation = word / 32;
            boolean works = word % 4 == 2;
            boolean isZero = works && (operation == 28 || operation == 29);
            boolean isLess = works && (operation == 16 || operation == 17 || operation == 19);
            boolean isPointer = word == Words.plain(Words.IS_POINTER, 0);
            DigitChip chip = Words.atWithCarry(7, word);
            Check.due("run(1)", chip.run(1), 1);
            Check.due("carry behind word " + word, chip.state(2), isZero || isLess || isPointer ? 1 : 0);
        }
        DigitChip chip = Words.atWithCarry(7, 0);
        Check.due("run(0)", chip.run(0), 0);
        Check.due("carry behind no word", chip.state(2), 1);
    }

    private static void callKeepsThePlaceBehindIt() {
        Check.about("kind 1: the back place becomes the place");
        for (int place = 0; place < 64; place++) {
            DigitChip chip = Words.at(place, Words.callOf(9));
            Check.due("run(1)", chip.run(1), 1);
            Check.states(chip, "behind a call at " + place, 0, 0, 0, 9, place == 63 ? 0 : place + 1);
        }
        DigitChip chip = Words.atWithCarry(30, Words.callOf(30));
        Check.due("run(1)", chip.run(1), 1);
        Check.states(chip, "behind a call of itself with the carry", 0, 0, 0, 30, 31);
    }

    private static void callGoesToThePlaceMod64() {
        Check.about("kind 1: and the place the word / 4 mod 64");
        for (int target = 0; target < 256; target++) {
            DigitChip chip = Words.at(5, Words.callOf(target));
            Check.due("run(1)", chip.run(1), 1);
            Check.states(chip, "behind a call of " + target, 0, 0, 0, target % 64, 6);
        }
    }

    private static void jumpLooksAtTheCarryBefore() {
        Check.about("kind 3: if the carry was 0 before, the place becomes the word / 4 mod 64");
        for (int place : new int[] {0, 31, 62, 63}) {
            DigitChip chip = Words.atWithCarry(place, Words.jumpTo(40));
            Check.due("run(1)", chip.run(1), 1);
            Check.states(chip, "behind a jump with the carry at " + place, 0, 0, 0, (place + 1) % 64, 0);
            chip.go(place);
            Check.due("run(1)", chip.run(1), 1);
            Check.states(chip, "behind a jump without the carry at " + place, 0, 0, 0, 40, 0);
        }
    }

    private static void jumpGoesToThePlaceMod64() {
        Check.about("kind 3: the place becomes the word / 4 mod 64");
        for (int target = 0; target < 256; target++) {
            DigitChip chip = Words.at(5, Words.jumpTo(target));
            Check.due("run(1)", chip.run(1), 1);
            Check.states(chip, "behind a jump to " + target, 0, 0, 0, target % 64, 0);
        }
    }

    private static void pointerBecomesNMod14() {
        Check.about("1 the pointer becomes N mod 14");
        for (int n = 0; n < 16; n++) {
            DigitChip chip = Words.atPointer(5, Words.plain(Words.POINTER_IS, n));
            Check.due("run(1)", chip.run(1), 1);
            Check.states(chip, "behind p= of " + n, n < 14 ? n : n - 14, 0, 0, 1, 0);
        }
    }

    private static void pointerIsN() {
        Check.about("2 the carry is 1 if the pointer is N");
        for (int pointer = 0; pointer < 14; pointer++) {
            for (int n = 0; n < 16; n++) {
                DigitChip chip = Words.atPointer(pointer, Words.plain(Words.IS_POINTER, n));
                Check.due("run(1)", chip.run(1), 1);
                Check.states(chip, "behind ?p= of " + n, pointer, 0, pointer == n ? 1 : 0, 1, 0);
            }
        }
    }

    private static void statusBitsAbove11AreNothing() {
        Check.about("for N above 11 nothing, 5: the carry stays 0");
        for (int n = 11; n < 16; n++) {
            DigitChip chip = new DigitChip();
            Words.doOne(chip, Words.plain(Words.STATUS_ON, n));
            Check.due("status bits behind s+ of " + n, chip.state(1), n == 11 ? 2048 : 0);
            Words.doOne(chip, Words.plain(Words.IS_STATUS, n));
            Check.due("carry behind ?s of " + n, chip.state(2), n == 11 ? 1 : 0);
            for (int other = 0; other < 12; other++) {
                Words.doOne(chip, Words.plain(Words.STATUS_ON, other));
            }
            Words.doOne(chip, Words.plain(Words.IS_STATUS, n));
            Check.due("carry behind ?s of " + n + " with all bits", chip.state(2), n == 11 ? 1 : 0);
            Words.doOne(chip, Words.plain(Words.STATUS_OFF, n));
            Check.due("status bits behind s- of " + n, chip.state(1), n == 11 ? 2047 : 4095);
        }
    }

    private static void digitIsNMod10() {
        Check.about("6 the digit of C at the pointer becomes N mod 10");
        for (int pointer = 0; pointer < 14; pointer++) {
            for (int n = 0; n < 16; n++) {
                DigitChip chip = Words.atPointer(pointer, Words.plain(Words.DIGIT, n));
                Check.setAll(chip, FULL, FULL, FULL, FULL, FULL, FULL, FULL);
                Check.due("run(1)", chip.run(1), 1);
                int digit = n < 10 ? n : n - 10;
                long want = FULL - (9 - digit) * (long) Math.pow(10, pointer);
                Check.values(chip, "behind l of " + n, FULL, FULL, want, FULL, FULL, FULL, FULL);
            }
        }
    }

    private static void digitLowersThePointer() {
        Check.about("6: and the pointer is 1 less (below 0 it is 13)");
        for (int pointer = 0; pointer < 14; pointer++) {
            DigitChip chip = Words.atPointer(pointer, Words.plain(Words.DIGIT, 15));
            Check.due("run(1)", chip.run(1), 1);
            Check.states(chip, "behind l at " + pointer, pointer == 0 ? 13 : pointer - 1, 0, 0, 1, 0);
        }
    }

    private static void pointerAbove13Is0() {
        Check.about("7 the pointer is 1 more (above 13 it is 0)");
        for (int pointer = 0; pointer < 14; pointer++) {
            DigitChip chip = Words.atPointer(pointer, Words.plain(Words.POINTER_UP, 15));
            Check.due("run(1)", chip.run(1), 1);
            Check.states(chip, "behind p+ at " + pointer, pointer == 13 ? 0 : pointer + 1, 0, 0, 1, 0);
        }
    }

    private static void pointerBelow0Is13() {
        Check.about("8 it is 1 less (below 0 it is 13)");
        for (int pointer = 0; pointer < 14; pointer++) {
            DigitChip chip = Words.atPointer(pointer, Words.plain(Words.POINTER_DOWN, 15));
            Check.due("run(1)", chip.run(1), 1);
            Check.states(chip, "behind p- at " + pointer, pointer == 0 ? 13 : pointer - 1, 0, 0, 1, 0);
        }
    }

    private static void pushLosesF() {
        Check.about("9 F = E, E = D, D = C");
        DigitChip chip = Words.at(0, 36);
        Check.setAll(chip, 1, 2, 3, 4, 5, FULL, 7);
        chip.run(1);
        Check.values(chip, "behind push", 1, 2, 3, 3, 4, 5, 7);
        for (int i = 0; i < 3; i++) {
            Words.doOne(chip, 36);
        }
        Check.values(chip, "behind four pushes", 1, 2, 3, 3, 3, 3, 7);
    }

    private static void popLeavesF() {
        Check.about("10 A = D, D = E, E = F");
        DigitChip chip = Words.at(0, 40);
        Check.setAll(chip, FULL, 2, 3, 4, 5, 6, 7);
        chip.run(1);
        Check.values(chip, "behind pop", 4, 2, 3, 5, 6, 6, 7);
        for (int i = 0; i < 3; i++) {
            Words.doOne(chip, 40);
        }
        Check.values(chip, "behind four pops", 6, 2, 3, 6, 6, 6, 7);
    }

    private static void downLeavesF() {
        Check.about("15 C = D, A = C as it was, D = E, E = F");
        DigitChip chip = Words.at(0, 60);
        Check.setAll(chip, FULL, 2, 3, 4, 5, 6, 7);
        chip.run(1);
        Check.values(chip, "behind down", 3, 2, 4, 5, 6, 6, 7);
        for (int i = 0; i < 3; i++) {
            Words.doOne(chip, 60);
        }
        Check.values(chip, "behind four downs", 6, 2, 6, 6, 6, 6, 7);
    }

    private static void exchangeKeepsBoth() {
        Check.about("14 C and M change");
        DigitChip chip = Words.at(0, 56);
        Check.setAll(chip, 1, 2, 0, 4, 5, 6, FULL);
        chip.run(1);
        Check.values(chip, "behind C:M", 1, 2, FULL, 4, 5, 6, 0);
        Words.doOne(chip, 56);
        Check.values(chip, "behind C:M again", 1, 2, 0, 4, 5, 6, FULL);
    }

    private static void backGoesToTheBackPlace() {
        Check.about("11 the place becomes the back place");
        for (int place = 0; place < 64; place++) {
            DigitChip chip = Words.at(place, Words.callOf(33));
            chip.run(1);
            chip.poke(33, Words.plain(Words.BACK, 15));
            chip.go(33);
            Check.due("run(1)", chip.run(1), 1);
            int behind = place == 63 ? 0 : place + 1;
            Check.states(chip, "behind back to " + behind, 0, 0, 0, behind, behind);
        }
    }

    private static void keyGoesTo8TimesItsNumberMod64() {
        Check.about("12 if a key waits, the place becomes 8 times its number mod 64");
        int[] want = {0, 8, 16, 24, 32, 40, 48, 56, 0, 8, 16, 24, 32, 40, 48, 56};
        for (int k = 0; k < 16; k++) {
            for (int place : new int[] {0, 5, 63}) {
                DigitChip chip = Words.at(place, Words.plain(Words.KEY, k));
                Check.due("key(" + k + ")", chip.key(k), true);
                Check.due("run(1)", chip.run(1), 1);
                Check.states(chip, "behind key " + k, 0, 0, 0, want[k], 0);
            }
        }
        DigitChip chip = Words.at(5, 48);
        chip.poke(24, 28);
        chip.poke(25, 52);
        chip.key(3);
        Check.due("run(9) goes on behind a key", chip.run(9), 3);
        Check.states(chip, "behind a run with a key", 1, 0, 0, 26, 0);
    }

    private static void keyTakesTheFirstOne() {
        Check.about("12 if a key waits, the first one is gone");
        DigitChip chip = Words.at(5, 48);
        chip.key(7);
        chip.key(2);
        chip.key(4);
        for (int k : new int[] {7, 2, 4}) {
            int before = chip.keys();
            chip.go(5);
            Check.due("run(1)", chip.run(1), 1);
            Check.due("place of the key", chip.state(3), k * 8);
            Check.due("keys()", chip.keys(), before - 1);
        }
        // Key 0 is a key as any other one.
        chip.key(0);
        chip.go(5);
        Check.due("run(1) with key 0", chip.run(1), 1);
        Check.due("place of key 0", chip.state(3), 0);
        Check.due("keys()", chip.keys(), 0);
    }

    private static void keyWithoutOneStays() {
        Check.about("12: otherwise the place is again that of this word, and the run ends");
        for (int place = 0; place < 64; place++) {
            DigitChip chip = Words.atWithCarry(place, Words.plain(Words.KEY, 0));
            long[] before = Check.seen(chip);
            before[71 + 2] = 0;
            Check.due("run(400) at key at " + place, chip.run(400), 1);
            Check.same(chip, "behind key without one", before);
            Check.due("run(400) again", chip.run(400), 1);
            Check.due("place behind it", chip.state(3), place);
        }
    }

    private static void stopEndsTheRun() {
        Check.about("13 the run ends");
        for (int place = 0; place < 64; place++) {
            DigitChip chip = Words.at(place, Words.plain(Words.STOP, 15));
            Check.due("run(400) of stop at " + place, chip.run(400), 1);
            Check.states(chip, "behind stop", 0, 0, 0, place == 63 ? 0 : place + 1, 0);
            Check.due("run(400) behind stop", chip.run(400), 64);
        }
    }
}
