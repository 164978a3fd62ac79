/** Promises 2, 3 and 4: type, assemble and illAt. */
public final class AssemblerTest {
    private static final String[] FIELD_NAMES = {
        "A=0", "B=0", "C=0", "A:B", "B=A", "A:C", "C=B", "B:C", "A=A+B", "A=A+C", "C=A+C", "A=A+1", "C=C+1",
        "A=A-B", "A=A-C", "C=A-C", "A=A-1", "C=C-1", "C=-C", "C=-C-1", "A<", "A>", "B>", "C>",
        "?A<B", "?A<C", "?B", "?C", "?A=0", "?C=0", "C=C+C", "A=C"
    };
    private static final String[] PLAIN_NAMES = {
        "no", "p=N", "?p=N", "sN+", "sN-", "?sN", "lN", "p+", "p-", "push", "pop", "back", "key", "stop", "C:M", "down"
    };
    private static final String FIELDS = "pqexsmnw";
    private static final String HEXADECIMAL = "0123456789abcdef";

    public static void main(String[] args) {
        characters();
        fullText();
        everyFieldName();
        everyPlainName();
        labels();
        blanks();
        takesTheText();
        leavesTheRest();
        illNames();
        illLabels();
        illOrder();
        tooManyWords();
        illChangesNothingElse();
        illAtStays();
        Check.end();
    }

    private static void characters() {
        for (int code = 0; code < 65536; code++) {
            DigitChip chip = new DigitChip();
            Check.due("type of code " + code, chip.type((char) code), code >= 32 && code <= 126);
        }
        DigitChip chip = new DigitChip();
        chip.type('n');
        chip.type((char) 31);
        chip.type((char) 127);
        chip.type((char) 256);
        chip.type('o');
        Check.due("assemble() past what isn't typed", chip.assemble(), 1);
    }

    private static void fullText() {
        DigitChip chip = new DigitChip();
        Check.type(chip, " ".repeat(238) + "p");
        Check.due("the 240th character", chip.type('+'), true);
        Check.due("the 241st character", chip.type('x'), false);
        Check.due("the 241st character again", chip.type(' '), false);
        Check.due("assemble() of a full text", chip.assemble(), 1);
        Check.words(chip, "of a full text", 28);
        Check.due("type behind assemble", chip.type('p'), true);
        Check.assembles(chip, "-", 1);
        Check.due("word(0) of the next text", chip.word(0), 32);
    }

    private static void everyFieldName() {
        for (int operation = 0; operation < 32; operation++) {
            DigitChip chip = new DigitChip();
            for (int field = 0; field < 8; field++) {
                String name = FIELD_NAMES[operation] + "." + FIELDS.charAt(field);
                Check.assembles(chip, name, 1);
                Check.due("word of " + name, chip.word(0), operation * 32 + field * 4 + 2);
            }
        }
    }

    private static void everyPlainName() {
        for (int operation = 0; operation < 16; operation++) {
            DigitChip chip = new DigitChip();
            String pattern = PLAIN_NAMES[operation];
            for (int n = 0; n < (pattern.contains("N") ? 16 : 1); n++) {
                String name = pattern.replace('N', HEXADECIMAL.charAt(n));
                Check.assembles(chip, name, 1);
                Check.due("word of " + name, chip.word(0), n * 64 + operation * 4);
            }
        }
    }

    private static void labels() {
        DigitChip chip = new DigitChip();
        Check.assembles(chip, ">z @y no :y :z no @z >y", 6);
        Check.words(chip, "with labels", 3 * 4 + 3, 3 * 4 + 1, 0, 0, 3 * 4 + 1, 3 * 4 + 3);
        Check.assembles(chip, ":a :b", 0);
        Check.assembles(chip, "no ".repeat(62) + ">a @a :a", 64);
        Check.due("word(62) to a label behind 64 words", chip.word(62), 3);
        Check.due("word(63) to a label behind 64 words", chip.word(63), 1);
        chip = new DigitChip();
        Check.assembles(chip, "no ".repeat(62) + "no :a >a", 64);
        Check.due("word(63) to a label at place 63", chip.word(63), 63 * 4 + 3);
        for (char letter = 'a'; letter <= 'z'; letter++) {
            chip = new DigitChip();
            Check.assembles(chip, "no :" + letter + " >" + letter, 2);
            Check.due("word to label " + letter, chip.word(1), 7);
        }
    }

    private static void blanks() {
        DigitChip chip = new DigitChip();
        Check.assembles(chip, "", 0);
        Check.assembles(chip, "     ", 0);
        Check.assembles(chip, "   p+   p-  ", 2);
        Check.words(chip, "of names with blanks", 28, 32);
        Check.isIll(chip, "p+p-", 0);
        Check.isIll(chip, ":a>a", 0);
        Check.isIll(chip, "A=0 .w", 0);
    }

    private static void takesTheText() {
        DigitChip chip = new DigitChip();
        Check.assembles(chip, "p+ p-", 2);
        Check.due("assemble() of the emptied text", chip.assemble(), 0);
        Check.words(chip, "of the emptied text");
        Check.isIll(chip, "bad", 0);
        Check.assembles(chip, "no", 1);
        Check.assembles(chip, ":a", 0);
        Check.assembles(chip, ":a", 0);
        Check.isIll(chip, ">a", 0);
    }

    private static void leavesTheRest() {
        DigitChip chip = Check.chip("@s no :s p=7 s2+ l9 ?s2 stop");
        Check.setAll(chip, 1, 2, 3, 4, 5, 6, 7);
        Check.due("run(5)", chip.run(5), 5);
        chip.key(5);
        chip.key(6);
        chip.poke(63, 1023);
        Check.states(chip, "before", 6, 4, 1, 6, 1);
        Check.assembles(chip, "p+", 1);
        Check.words(chip, "of the next text", 28);
        Check.states(chip, "behind the next text", 6, 4, 1, 0, 1);
        Check.values(chip, "behind the next text", 1, 2, 90000003, 4, 5, 6, 7);
        Check.due("keys() behind the next text", chip.keys(), 2);
    }

    private static void illNames() {
        String[] names = {
            "x", "n", "noo", "No", "NO", "p", "p=", "p=g", "p=A", "p=N", "p=00", "?p", "?p=", "?p=F", "s", "s1", "sg+",
            "s+", "s1*", "sA-", "s1+-", "?s", "?sz", "?s10", "l", "lG", "l-1", "p++", "pus", "pushh", "ba", "key1", "C:m",
            "M:C", "down.w", "no.w", "p=1.w", ":", ":A", ":1", ":ab", ">", ">A", ">ab", "@", "@Z", "@{", "@`", ":`", ":{",
            "A=0", "A=0.", "A=0.y", "A=0.W", "A=0.ww", "A=0w", "A=0..w", ".w", "..w", ".", "A", "A.w", "a=0.w", "D=0.w",
            "A=1.w", "A=B.w", "B=C.w", "C=A.w", "B:A.w", "B<.w", "C<.w", "D>.w", "?A.w", "?A<.w", "?B<A.w", "?B=0.w",
            "C=-C-.w", "C=-A.w", "C=C+C", "A=A+.w", "A=A+B+C.w", "=.w", "no~", "-", "N", "pN"
        };
        DigitChip chip = new DigitChip();
        for (int i = 0; i < names.length; i++) {
            if (i % 20 == 0) {
                chip = new DigitChip();
            }
            Check.isIll(chip, names[i], 0);
        }
    }

    private static void illLabels() {
        DigitChip chip = new DigitChip();
        Check.isIll(chip, ":a no :a", 6);
        Check.isIll(chip, ":a :a", 3);
        Check.isIll(chip, ">a", 0);
        Check.isIll(chip, "  no @b :a", 5);
        Check.isIll(chip, ">a >b >c :a", 3);
        Check.isIll(chip, ":a >a @a @z >y", 9);
    }

    private static void illOrder() {
        DigitChip chip = new DigitChip();
        Check.isIll(chip, ">a @b  x y", 7);
        Check.isIll(chip, ">a :b :b", 6);
        Check.isIll(chip, "x :a :a", 0);
        Check.isIll(chip, ":a :a x", 3);
        Check.isIll(chip, "   x", 3);
        Check.isIll(chip, " no   x no", 6);
        Check.isIll(chip, " ".repeat(239) + "x", 239);
    }

    private static void tooManyWords() {
        DigitChip chip = new DigitChip();
        Check.isIll(chip, "no ".repeat(65), 64 * 3);
        chip = new DigitChip();
        Check.isIll(chip, "no ".repeat(66) + "x", 64 * 3);
        chip = new DigitChip();
        Check.isIll(chip, "no ".repeat(64) + ":a  x", 64 * 3 + 4);
        chip = new DigitChip();
        Check.isIll(chip, ">q " + "no ".repeat(64), 64 * 3);
        chip = new DigitChip();
        Check.isIll(chip, "no ".repeat(64) + ":a >a", 64 * 3 + 3);
        chip = new DigitChip();
        Check.assembles(chip, "p+ ".repeat(64) + ":a :b", 64);
        Check.due("word(63) of 64 words", chip.word(63), 28);
        chip = new DigitChip();
        Check.isIll(chip, ">q " + "no ".repeat(63) + ":a", 0);
    }

    private static void illChangesNothingElse() {
        DigitChip chip = Check.chip("@s no :s p=7 s2+ l9 ?s2 stop");
        Check.setAll(chip, 1, 2, 3, 4, 5, 6, 7);
        chip.run(5);
        chip.key(5);
        for (String text : new String[] {"p+ p+ x", ":a :a", "p+ >a"}) {
            Check.isIll(chip, text, text.indexOf("x") > 0 ? 6 : 3);
            Check.words(chip, "behind " + text, 9, 0, 7 * 64 + 4, 2 * 64 + 12, 9 * 64 + 24, 2 * 64 + 20, 52);
            Check.states(chip, "behind " + text, 6, 4, 1, 6, 1);
            Check.values(chip, "behind " + text, 1, 2, 90000003, 4, 5, 6, 7);
            Check.due("keys() behind " + text, chip.keys(), 1);
        }
    }

    private static void illAtStays() {
        DigitChip chip = new DigitChip();
        Check.isIll(chip, "no x", 3);
        Check.type(chip, "no no");
        Check.due("illAt() while a text is typed", chip.illAt(), 3);
        chip.run(3);
        chip.poke(0, 5);
        Check.due("illAt() behind other calls", chip.illAt(), 3);
        Check.due("assemble()", chip.assemble(), 2);
        Check.due("illAt() behind a good text", chip.illAt(), DigitChip.NONE);
    }
}
