/** "THE ASSEMBLER" and the promises 2, 3 and 4: each of their boundaries. */
public final class AssemblerBoundaryTest {
    public static void main(String[] args) {
        codesFrom32To126();
        refusedCharactersAreNotThere();
        at240NoMore();
        emptyAgainThereIsRoom();
        blanksAnyNumber();
        namesNeedBlanksBetween();
        firstWordAtPlace0();
        hexadecimalDigits();
        labelLetters();
        fieldLetters();
        noNIs0();
        labelMakesNoWord();
        labelBehind64WordsIsPlace0();
        labelOnceInAText();
        labelsThatComeLater();
        illAtNoName();
        illAtLabelThatIsThere();
        illAtWord65();
        illAtFirstOfThem();
        illAtLabelThatIsNotThere();
        illAtMissingLabelComesLast();
        othersBecome0();
        placeBecomes0();
        theRestStays();
        howManyWords();
        emptyText();
        textIsEmptyInAnyCase();
        illChangesNothingElse();
        illAtBeforeAnAssemble();
        illAtBlanksCount();
        illAtStaysWhileTyping();
        illAtIsOfTheLatest();
        Check.end();
    }

    private static void codesFrom32To126() {
        Check.about("Promise 2: false if its code isn't 32 .. 126");
        for (int code = 0; code < 65536; code++) {
            DigitChip chip = new DigitChip();
            Check.due("type of code " + code, chip.type((char) code), code >= 32 && code <= 126);
        }
    }

    private static void refusedCharactersAreNotThere() {
        Check.about("Promise 2: Appends a character to the text; false (refused) if its code isn't 32 .. 126");
        for (int code : new int[] {0, 9, 10, 31, 127, 128, 160, 255, 256 + 32, 65535}) {
            DigitChip chip = new DigitChip();
            Check.due("type of code " + code, chip.type((char) code), false);
            Check.type(chip, "n");
            Check.due("type of code " + code, chip.type((char) code), false);
            Check.assembles(chip, "o", 1);
            Check.type(chip, " ".repeat(239));
            Check.due("type of code " + code, chip.type((char) code), false);
            Check.due("the 240th character", chip.type('x'), true);
            Check.due("the 241st character", chip.type('x'), false);
            Check.isIll(chip, "", 239);
        }
    }

    private static void at240NoMore() {
        Check.about("Promise 2: false if 240 are there");
        DigitChip chip = new DigitChip();
        for (int i = 1; i <= 240; i++) {
            Check.due("character " + i, chip.type(i <= 238 ? ' ' : i == 239 ? 'n' : 'o'), true);
        }
        for (char c : new char[] {'x', ' ', 'o', 126}) {
            Check.due("the 241st character", chip.type(c), false);
        }
        Check.assembles(chip, "", 1);
        Check.words(chip, "of the 240 characters", 0);
    }

    private static void emptyAgainThereIsRoom() {
        Check.about("Promise 2: false if 240 are there (the taken ones are not there)");
        DigitChip chip = new DigitChip();
        Check.type(chip, " ".repeat(238) + "p+");
        Check.due("the 241st character", chip.type('x'), false);
        Check.assembles(chip, "", 1);
        Check.type(chip, "p-" + " ".repeat(238));
        Check.due("the 241st character of the next text", chip.type('x'), false);
        Check.assembles(chip, "", 1);
        Check.due("word(0) of the next text", chip.word(0), 32);
        chip = new DigitChip();
        Check.type(chip, "x" + " ".repeat(239));
        Check.due("the 241st character", chip.type('x'), false);
        Check.isIll(chip, "", 0);
        Check.type(chip, " ".repeat(239));
        Check.due("the 240th character behind an ill text", chip.type('x'), true);
        Check.due("the 241st character behind an ill text", chip.type('x'), false);
        Check.isIll(chip, "", 239);
    }

    private static void blanksAnyNumber() {
        Check.about("NAMES with blanks between them (any number, also before and behind)");
        DigitChip chip = new DigitChip();
        Check.assembles(chip, "p+ p-", 2);
        Check.words(chip, "with one blank", 28, 32);
        Check.assembles(chip, " p+  p- ", 2);
        Check.due("word(0)", chip.word(0), 28);
        Check.due("word(1)", chip.word(1), 32);
        Check.assembles(chip, "   p+       p-     ", 2);
        Check.due("word(0)", chip.word(0), 28);
        Check.due("word(1)", chip.word(1), 32);
        chip = new DigitChip();
        Check.assembles(chip, "p+" + " ".repeat(236) + "p-", 2);
        Check.words(chip, "with 236 blanks", 28, 32);
        chip = new DigitChip();
        Check.assembles(chip, " ".repeat(240), 0);
        Check.words(chip, "of blanks alone");
        Check.assembles(chip, " ", 0);
    }

    private static void namesNeedBlanksBetween() {
        Check.about("NAMES with blanks between them");
        DigitChip chip = new DigitChip();
        for (String text : new String[] {"nono", "p+p-", "A=0.wB=0.w", ":a:b", ">a:a", "no,no", "no;", "l1l2"}) {
            Check.isIll(chip, text, 0);
        }
    }

    private static void firstWordAtPlace0() {
        Check.about("The words come one behind the other, the first one at place 0");
        DigitChip chip = Words.at(40, 0);
        Check.assembles(chip, "p+ p- push", 3);
        Check.words(chip, "of three names", 28, 32, 36);
    }

    private static void hexadecimalDigits() {
        Check.about("with N a hexadecimal digit 0 .. 9, a .. f");
        String[] befores = {"p=", "?p=", "s", "s", "?s", "l"};
        String[] behinds = {"", "", "+", "-", "", ""};
        for (int i = 0; i < befores.length; i++) {
            for (char c = 33; c < 127; c++) {
                int n = "0123456789abcdef".indexOf(c);
                String name = befores[i] + c + behinds[i];
                DigitChip chip = new DigitChip();
                if (n < 0) {
                    Check.isIll(chip, name, 0);
                } else {
                    Check.assembles(chip, name, 1);
                    Check.due("word of " + name, chip.word(0), n * 64 + (i + 1) * 4);
                }
            }
        }
    }

    private static void labelLetters() {
        Check.about("L a letter a .. z");
        for (char c = 33; c < 127; c++) {
            boolean letter = c >= 'a' && c <= 'z';
            DigitChip chip = new DigitChip();
            if (letter) {
                Check.assembles(chip, "no :" + c + " >" + c + " @" + c, 3);
                Check.words(chip, "with label " + c, 0, 7, 5);
            } else {
                Check.isIll(chip, ":a :" + c, 3);
                Check.isIll(chip, ":a >" + c, 3);
                Check.isIll(chip, ":a @" + c, 3);
            }
        }
    }

    private static void fieldLetters() {
        Check.about(".f the letter of a field behind a point");
        for (char c = 33; c < 127; c++) {
            int field = "pqexsmnw".indexOf(c);
            DigitChip chip = new DigitChip();
            if (field < 0) {
                Check.isIll(chip, "A=0." + c, 0);
                Check.isIll(chip, "A=C." + c, 0);
            } else {
                Check.assembles(chip, "A=0." + c + " A=C." + c, 2);
                Check.words(chip, "with field " + c, field * 4 + 2, 31 * 32 + field * 4 + 2);
            }
        }
        DigitChip chip = new DigitChip();
        for (String name : new String[] {"A=0", "A=0.", "A=0w", "A=0,w", "A=0..w", "A=0.ww", "A=0. w", ".w"}) {
            Check.isIll(chip, name, 0);
        }
    }

    private static void noNIs0() {
        Check.about("operations 0 to 15 of kind 0 (N being 0 where there is none)");
        DigitChip chip = new DigitChip();
        Check.assembles(chip, "no p+ p- push pop back key stop C:M down", 10);
        Check.words(chip, "of names without N", 0, 28, 32, 36, 40, 44, 48, 52, 56, 60);
        // Behind a name with N, that N is not kept.
        Check.assembles(chip, "lf no p=f p+ sf+ key ?sf stop", 8);
        Check.words(chip, "of names without N behind those with N", 984, 0, 964, 28, 972, 48, 980, 52);
    }

    private static void labelMakesNoWord() {
        Check.about(":L - the LABEL L is here (no word)");
        DigitChip chip = new DigitChip();
        Check.assembles(chip, ":a p+ :b :c p- :d >a >b @c @d", 6);
        Check.words(chip, "with labels between", 28, 32, 3, 7, 5, 9);
        Check.assembles(chip, ":a :b :c", 0);
        Check.words(chip, "of labels alone");
    }

    private static void labelBehind64WordsIsPlace0() {
        Check.about(":L - behind 64 words it is place 0");
        DigitChip chip = new DigitChip();
        Check.assembles(chip, "@a >b " + "no ".repeat(62) + ":a :b", 64);
        Check.due("word(0) to a label behind 64 words", chip.word(0), 1);
        Check.due("word(1) to a label behind 64 words", chip.word(1), 3);
        chip = new DigitChip();
        Check.assembles(chip, "@a >b " + "no ".repeat(61) + ":a :b no", 64);
        Check.due("word(0) to a label behind 63 words", chip.word(0), 63 * 4 + 1);
        Check.due("word(1) to a label behind 63 words", chip.word(1), 63 * 4 + 3);
        chip = new DigitChip();
        Check.assembles(chip, "no ".repeat(63) + ">a :a", 64);
        Check.due("word(63) to a label behind it", chip.word(63), 3);
        chip = new DigitChip();
        Check.assembles(chip, "p+ ".repeat(64) + ":z", 64);
        Check.due("word(63) before a label", chip.word(63), 28);
        Check.due("word(0)", chip.word(0), 28);
    }

    private static void labelOnceInAText() {
        Check.about("the LABEL L, once in a text");
        DigitChip chip = new DigitChip();
        Check.isIll(chip, ":a :a", 3);
        Check.isIll(chip, ":a no :b :a", 9);
        Check.isIll(chip, ":z :a :z", 6);
        Check.assembles(chip, ":a :b no", 1);
        Check.assembles(chip, ":b no :a >a", 2);
        Check.due("word(1) to the label of this text", chip.word(1), 7);
        Check.isIll(chip, ":c x", 3);
        Check.assembles(chip, ":c", 0);
        // The 26 of them are all there at once.
        StringBuilder all = new StringBuilder();
        for (char c = 'a'; c <= 'z'; c++) {
            all.append(':').append(c).append(' ');
        }
        Check.assembles(chip, all + "no", 1);
        chip = new DigitChip();
        Check.isIll(chip, all + ":z", 78);
        Check.isIll(chip, all + ":a", 78);
    }

    private static void labelsThatComeLater() {
        Check.about(">L - kind 3 to a label; @L - kind 1 to a label (also one that comes later)");
        DigitChip chip = new DigitChip();
        Check.assembles(chip, "@z >z no :z @z >z", 5);
        Check.words(chip, "with a label between", 13, 15, 0, 13, 15);
        Check.assembles(chip, ">a :a", 1);
        Check.words(chip, "with a label behind", 7);
        Check.assembles(chip, ":a >a", 1);
        Check.words(chip, "with a label before", 3);
    }

    private static void illAtNoName() {
        Check.about("ILL at the place where the first name begins that is none of these");
        DigitChip chip = new DigitChip();
        Check.isIll(chip, "x", 0);
        Check.isIll(chip, "no xyz", 3);
        Check.isIll(chip, "no xyz noo", 3);
        Check.isIll(chip, "no  nox", 4);
        Check.isIll(chip, ":a A=0 >a", 3);
        chip = new DigitChip();
        Check.isIll(chip, "x".repeat(240), 0);
        chip = new DigitChip();
        Check.isIll(chip, " ".repeat(239) + "n", 239);
    }

    private static void illAtLabelThatIsThere() {
        Check.about("ILL at a label that is there already");
        DigitChip chip = new DigitChip();
        Check.isIll(chip, ":q  :q", 4);
        Check.isIll(chip, ":q :r :r :q", 6);
        Check.isIll(chip, ":q :q :q", 3);
        chip = new DigitChip();
        Check.isIll(chip, "no ".repeat(64) + ":a :a", 195);
    }

    private static void illAtWord65() {
        Check.about("ILL at a word that would be the 65th");
        DigitChip chip = new DigitChip();
        Check.assembles(chip, "no ".repeat(63) + "p+", 64);
        Check.due("word(63), the 64th", chip.word(63), 28);
        chip = new DigitChip();
        Check.isIll(chip, "no ".repeat(64) + "p+", 192);
        Check.words(chip, "behind a 65th word");
        for (String name : new String[] {">a", "@a", "A=C.w", "l0", "down"}) {
            chip = new DigitChip();
            Check.isIll(chip, ":a " + "no ".repeat(64) + name, 195);
        }
        chip = new DigitChip();
        Check.isIll(chip, "no ".repeat(64) + ":a  no no", 196);
    }

    private static void illAtFirstOfThem() {
        Check.about("ILL at the place where the first name begins that is ...");
        DigitChip chip = new DigitChip();
        Check.isIll(chip, ":a :a x", 3);
        Check.isIll(chip, ":a x :a", 3);
        chip = new DigitChip();
        Check.isIll(chip, "no ".repeat(64) + "no x", 192);
        chip = new DigitChip();
        Check.isIll(chip, "no ".repeat(64) + "x no", 192);
        chip = new DigitChip();
        Check.isIll(chip, "x " + "no ".repeat(65), 0);
        chip = new DigitChip();
        Check.isIll(chip, ":a :a " + "no ".repeat(65), 3);
        chip = new DigitChip();
        Check.isIll(chip, ":a " + "no ".repeat(64) + "no :a", 195);
        chip = new DigitChip();
        Check.isIll(chip, ":a " + "no ".repeat(64) + ":a no", 195);
    }

    private static void illAtLabelThatIsNotThere() {
        Check.about("if there is none, at the first name with a label that isn't there");
        DigitChip chip = new DigitChip();
        Check.isIll(chip, ">a", 0);
        Check.isIll(chip, "@a", 0);
        Check.isIll(chip, ":a >a @a >b @c", 9);
        Check.isIll(chip, "  @b >a :a", 2);
        Check.isIll(chip, ">a @b :a", 3);
        Check.isIll(chip, ">z @y :a", 0);
        Check.isIll(chip, ">a >b", 0);
        Check.isIll(chip, " @a @b", 1);
        Check.isIll(chip, "no >a >a", 3);
        // A label of an earlier text is not there.
        Check.assembles(chip, ":a no", 1);
        Check.isIll(chip, "no >a", 3);
        chip = new DigitChip();
        Check.isIll(chip, "no ".repeat(63) + " @k", 190);
        chip = new DigitChip();
        Check.isIll(chip, ">k " + "no ".repeat(63) + ":a", 0);
    }

    private static void illAtMissingLabelComesLast() {
        Check.about("if there is none (of the other faults), at the first name with a label that isn't there");
        DigitChip chip = new DigitChip();
        Check.isIll(chip, ">a x", 3);
        Check.isIll(chip, "@a no :b :b", 9);
        Check.isIll(chip, ">a >b >c  :x  :x", 14);
        chip = new DigitChip();
        Check.isIll(chip, ">a " + "no ".repeat(64), 192);
        chip = new DigitChip();
        Check.isIll(chip, "no ".repeat(64) + ">a", 192);
    }

    private static void othersBecome0() {
        Check.about("Promise 3: its words are put into the memory from place 0 on, the others become 0");
        DigitChip chip = new DigitChip();
        for (int place = 0; place < 64; place++) {
            chip.poke(place, 1023);
        }
        Check.assembles(chip, "p+ p-", 2);
        Check.words(chip, "of two words", 28, 32);
        chip.poke(0, 7);
        chip.poke(1, 8);
        chip.poke(63, 9);
        Check.assembles(chip, ":a", 0);
        Check.words(chip, "of no words");
        chip = new DigitChip();
        chip.poke(63, 1023);
        Check.assembles(chip, "p+ ".repeat(63), 63);
        Check.due("word(62) of 63 words", chip.word(62), 28);
        Check.due("word(63) of 63 words", chip.word(63), 0);
    }

    private static void placeBecomes0() {
        Check.about("Promise 3: the place becomes 0");
        String[] texts = {"", "   ", ":a", "no", "p+ p-"};
        int[] words = {0, 0, 0, 1, 2};
        for (int place : new int[] {0, 1, 62, 63}) {
            for (int i = 0; i < texts.length; i++) {
                DigitChip chip = new DigitChip();
                chip.go(place);
                Check.type(chip, texts[i]);
                Check.due("place while it is typed", chip.state(3), place);
                Check.assembles(chip, "", words[i]);
                Check.due("place behind \"" + texts[i] + "\"", chip.state(3), 0);
            }
        }
    }

    private static void theRestStays() {
        Check.about("Promise 3: (registers, pointer, status, carry, back place and keys stay)");
        for (String text : new String[] {"", "p+", ":a >a"}) {
            DigitChip chip = Words.busy();
            Check.assembles(chip, text, text.isEmpty() ? 0 : 1);
            Check.values(chip, "behind assemble", 1, 2, 90000003, 4, 5, 6, 7);
            Check.states(chip, "behind assemble", 6, 4, 1, 0, 2);
            Check.due("keys() behind assemble", chip.keys(), 2);
            chip.poke(9, 48);
            for (int k : new int[] {5, 6}) {
                chip.go(9);
                chip.run(1);
                Check.due("place of the key that stayed", chip.state(3), k * 8);
            }
        }
    }

    private static void howManyWords() {
        Check.about("Promise 3: how many words");
        for (int words = 0; words <= 64; words++) {
            DigitChip chip = new DigitChip();
            Check.assembles(chip, "p+ ".repeat(words), words);
            for (int place = 0; place < 64; place++) {
                Check.due("word(" + place + ") of " + words, chip.word(place), place < words ? 28 : 0);
            }
        }
    }

    private static void emptyText() {
        Check.about("Promise 3: (0 of an empty text)");
        DigitChip chip = new DigitChip();
        Check.assembles(chip, "", 0);
        Check.assembles(chip, "", 0);
        chip = Words.busy();
        Check.assembles(chip, "", 0);
        Check.words(chip, "of an empty text");
        Check.due("place behind an empty text", chip.state(3), 0);
    }

    private static void textIsEmptyInAnyCase() {
        Check.about("Promise 3: Takes the text (it is empty then, in any case)");
        DigitChip chip = new DigitChip();
        Check.assembles(chip, "p+", 1);
        Check.assembles(chip, "", 0);
        for (String text : new String[] {"x", "no x", ":a :a", ">a", "no @a", "A=0 B"}) {
            Check.type(chip, text);
            Check.isIll(chip, "", text.equals(":a :a") || text.startsWith("no") ? 3 : 0);
            Check.assembles(chip, "", 0);
        }
        chip = new DigitChip();
        Check.isIll(chip, "no ".repeat(65), 192);
        Check.assembles(chip, "", 0);
        Check.isIll(chip, "n", 0);
        Check.isIll(chip, "o", 0);
    }

    private static void illChangesNothingElse() {
        Check.about("Promise 3: IllegalArgumentException: it is ILL (nothing else changes)");
        String[] texts = {"p+ p+ x", "p+ :a :a", "p+ p+ >a", "x", ">a p+", "no ".repeat(65)};
        int[] places = {6, 6, 6, 0, 0, 192};
        for (int i = 0; i < texts.length; i++) {
            DigitChip chip = Words.busy();
            long[] before = Check.seen(chip);
            Check.isIll(chip, texts[i], places[i]);
            before[77] = places[i];
            Check.same(chip, "behind \"" + texts[i] + "\"", before);
            chip.poke(9, 48);
            for (int k : new int[] {5, 6}) {
                chip.go(9);
                chip.run(1);
                Check.due("place of the key that stayed", chip.state(3), k * 8);
            }
        }
    }

    private static void illAtBeforeAnAssemble() {
        Check.about("Promise 4: NONE if there was none");
        DigitChip chip = new DigitChip();
        Check.due("illAt() of a new object", chip.illAt(), DigitChip.NONE);
        Check.type(chip, "no x");
        Check.due("illAt() before assemble", chip.illAt(), DigitChip.NONE);
        chip.run(3);
        Check.due("illAt() behind run", chip.illAt(), DigitChip.NONE);
    }

    private static void illAtBlanksCount() {
        Check.about("Promise 4: (blanks count)");
        for (int blanks = 0; blanks < 240; blanks++) {
            DigitChip chip = new DigitChip();
            Check.isIll(chip, " ".repeat(blanks) + "x", blanks);
        }
        DigitChip chip = new DigitChip();
        Check.isIll(chip, "  no    no  x  ", 12);
        Check.isIll(chip, "  :a    >b  no  ", 8);
    }

    private static void illAtStaysWhileTyping() {
        Check.about("Promise 4: (typing leaves it)");
        DigitChip chip = new DigitChip();
        Check.isIll(chip, "no x", 3);
        for (char c : "no no".toCharArray()) {
            Check.due("type", chip.type(c), true);
            Check.due("illAt() while a text is typed", chip.illAt(), 3);
        }
        Check.due("type of a wrong character", chip.type('\n'), false);
        Check.due("illAt() behind a wrong character", chip.illAt(), 3);
        chip.poke(0, 28);
        chip.run(1);
        chip.key(1);
        chip.set(0, 5);
        chip.go(5);
        Check.due("illAt() behind other calls", chip.illAt(), 3);
        Check.due("illAt() again", chip.illAt(), 3);
    }

    private static void illAtIsOfTheLatest() {
        Check.about("Promise 4: the text of the latest assemble; NONE if it wasn't");
        DigitChip chip = new DigitChip();
        Check.isIll(chip, "no x", 3);
        Check.isIll(chip, "x", 0);
        Check.isIll(chip, "no no >a", 6);
        Check.assembles(chip, "no", 1);
        Check.isIll(chip, " x", 1);
        Check.assembles(chip, "", 0);
    }
}
