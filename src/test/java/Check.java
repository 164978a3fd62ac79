/** Counts the answers that are not the ones that are due, and helps to make the calls. */
final class Check {
    private static int wrong = 0;
    private static String sentence = "";

    static {
        // An exception that is not due ends the test; this tells what it was about.
        Thread.setDefaultUncaughtExceptionHandler((thread, thrown) -> {
            System.out.println(sentence + "a call throws " + thrown);
            thrown.printStackTrace();
        });
    }

    private Check() {
    }

    /** The sentence of the document that the answers from here on are about; it is printed with the wrong ones. */
    static void about(String words) {
        sentence = "[" + words + "] ";
    }

    static void due(String call, long got, long want) {
        if (got != want) {
            wrong++;
            System.out.println(sentence + call + " answered " + got + ", due is " + want);
        }
    }

    static void due(String call, boolean got, boolean want) {
        due(call, got ? 1 : 0, want ? 1 : 0);
    }

    static void type(DigitChip chip, String text) {
        for (int i = 0; i < text.length(); i++) {
            due("type('" + text.charAt(i) + "') of " + text, chip.type(text.charAt(i)), true);
        }
    }

    /** A new chip with the words of a text. */
    static DigitChip chip(String text) {
        DigitChip chip = new DigitChip();
        type(chip, text);
        chip.assemble();
        return chip;
    }

    static void assembles(DigitChip chip, String text, int want) {
        type(chip, text);
        try {
            due("assemble() of \"" + text + "\"", chip.assemble(), want);
        } catch (IllegalArgumentException e) {
            due("assemble() of \"" + text + "\" throws", true, false);
        }
        due("illAt() behind \"" + text + "\"", chip.illAt(), DigitChip.NONE);
    }

    static void isIll(DigitChip chip, String text, int want) {
        type(chip, text);
        boolean thrown = false;
        try {
            chip.assemble();
        } catch (IllegalArgumentException e) {
            thrown = e.getClass() == IllegalArgumentException.class;
        }
        due("assemble() of \"" + text + "\" throws IllegalArgumentException", thrown, true);
        due("illAt() behind \"" + text + "\"", chip.illAt(), want);
    }

    static void words(DigitChip chip, String when, int... want) {
        for (int place = 0; place < 64; place++) {
            due("word(" + place + ") " + when, chip.word(place), place < want.length ? want[place] : 0);
        }
    }

    static void states(DigitChip chip, String when, int... want) {
        for (int what = 0; what < want.length; what++) {
            due("state(" + what + ") " + when, chip.state(what), want[what]);
        }
    }

    static void values(DigitChip chip, String when, long... want) {
        for (int register = 0; register < want.length; register++) {
            due("value(" + register + ") " + when, chip.value(register), want[register]);
        }
    }

    static void setAll(DigitChip chip, long... values) {
        for (int register = 0; register < values.length; register++) {
            due("set(" + register + ", " + values[register] + ")", chip.set(register, values[register]), true);
        }
    }

    static void runIsRefused(DigitChip chip, int n) {
        boolean thrown = false;
        try {
            chip.run(n);
        } catch (IllegalArgumentException e) {
            thrown = e.getClass() == IllegalArgumentException.class;
        }
        due("run(" + n + ") throws IllegalArgumentException", thrown, true);
    }

    /** What can be seen of a chip without changing it: 78 calls. */
    static long[] seen(DigitChip chip) {
        long[] seen = new long[78];
        for (int place = 0; place < 64; place++) {
            seen[place] = chip.word(place);
        }
        for (int register = 0; register < 7; register++) {
            seen[64 + register] = chip.value(register);
        }
        for (int what = 0; what < 5; what++) {
            seen[71 + what] = chip.state(what);
        }
        seen[76] = chip.keys();
        seen[77] = chip.illAt();
        return seen;
    }

    static void same(DigitChip chip, String when, long[] before) {
        long[] behind = seen(chip);
        for (int i = 0; i < before.length; i++) {
            due("what is seen (" + i + " of: 64 words, 7 registers, 5 states, keys, illAt) " + when,
                behind[i], before[i]);
        }
    }

    static void end() {
        if (wrong != 0) {
            System.out.println(wrong + " answers are not as due");
            System.exit(1);
        }
    }
}
