import java.util.Random;

/** Runs of calls, the same ones every time, on the chip and on a model of it; every answer must be the model's. */
public final class ModelTest {
    private static final int RUNS = 4000;
    private static final int CALLS = 512;
    private static final String[] PIECES = {
        "no", "p=%", "?p=%", "s%+", "s%-", "?s%", "l%", "p+", "p-", "push", "pop", "back", "key", "stop", "C:M", "down",
        "A=0.#", "B=0.#", "C=0.#", "A:B.#", "B=A.#", "A:C.#", "C=B.#", "B:C.#", "A=A+B.#", "A=A+C.#", "C=A+C.#",
        "A=A+1.#", "C=C+1.#", "A=A-B.#", "A=A-C.#", "C=A-C.#", "A=A-1.#", "C=C-1.#", "C=-C.#", "C=-C-1.#", "A<.#",
        "A>.#", "B>.#", "C>.#", "?A<B.#", "?A<C.#", "?B.#", "?C.#", "?A=0.#", "?C=0.#", "C=C+C.#", "A=C.#"
    };

    private final Random random;
    private final DigitChip chip = new DigitChip();
    private final Model model = new Model();
    private int calls = 0;

    private ModelTest(int seed) {
        random = new Random(seed);
    }

    public static void main(String[] args) {
        for (int seed = 0; seed < RUNS; seed++) {
            new ModelTest(seed).doCalls();
            new ModelTest(seed).doLongText();
        }
        Check.end();
    }

    private void doCalls() {
        while (calls < CALLS - 320) {
            switch (random.nextInt(12)) {
                case 0: assembleText(text()); break;
                case 1: poke(); break;
                case 2: key(); break;
                case 3: set(); break;
                case 4: go(); break;
                case 5: look(); break;
                default: run(); break;
            }
        }
        lookAtAll();
    }

    /** A text of short names, so that there are about as many words as places. */
    private void doLongText() {
        StringBuilder text = new StringBuilder();
        int names = 50 + random.nextInt(25);
        char next = 'a';
        for (int i = 0; i < names; i++) {
            int what = random.nextInt(40);
            if (what < 3 && next <= 'z') {
                text.append(':').append(random.nextInt(60) == 0 ? 'a' : next++);
            } else if (what < 7) {
                text.append(what % 2 == 0 ? '>' : '@').append((char) ('a' + random.nextInt(3)));
            } else {
                text.append(new String[] {"no", "p+", "p-", "l3"}[what % 4]);
            }
            text.append(' ');
        }
        assembleText(text.toString());
        lookAtAll();
        for (int i = 0; i < 5; i++) {
            run();
        }
        look();
    }

    private void due(String call, long got, long want) {
        calls++;
        Check.due(call, got, want);
    }

    private void due(String call, boolean got, boolean want) {
        due(call, got ? 1 : 0, want ? 1 : 0);
    }

    private String text() {
        StringBuilder text = new StringBuilder();
        int names = random.nextInt(20);
        char next = 'a';
        for (int i = 0; i < names; i++) {
            text.append(" ".repeat(1 + random.nextInt(3) / 2));
            int what = random.nextInt(30);
            if (what < 3 && next <= 'z') {
                text.append(':').append(random.nextInt(8) == 0 ? 'a' : next++);
            } else if (what < 6) {
                text.append(what % 2 == 0 ? '>' : '@').append((char) ('a' + random.nextInt(Math.max(1, next - 'a'))));
            } else if (what == 6 && random.nextInt(4) == 0) {
                text.append((char) (33 + random.nextInt(94)));
            } else {
                text.append(piece());
            }
        }
        return text.toString();
    }

    private String piece() {
        String piece = PIECES[random.nextInt(PIECES.length)];
        return piece.replace('%', "0123456789abcdef".charAt(random.nextInt(16)))
            .replace('#', "pqexsmnw".charAt(random.nextInt(8)));
    }

    private void assembleText(String text) {
        for (char c : text.toCharArray()) {
            due("type", chip.type(c), model.type(c));
        }
        int got;
        try {
            got = chip.assemble();
        } catch (IllegalArgumentException e) {
            got = -2;
        }
        due("assemble of" + text, got, model.assemble());
        due("illAt of" + text, chip.illAt(), model.ill);
    }

    private void poke() {
        int place = random.nextInt(66) - 1;
        int word = random.nextInt(20) == 0 ? random.nextInt(4000) - 1500 : random.nextInt(1024);
        due("poke(" + place + ", " + word + ")", chip.poke(place, word), model.poke(place, word));
    }

    private void key() {
        int k = random.nextInt(18) - 1;
        due("key(" + k + ")", chip.key(k), model.key(k));
    }

    private void set() {
        int register = random.nextInt(9) - 1;
        long v = someNumber();
        due("set(" + register + ", " + v + ")", chip.set(register, v), model.set(register, v));
    }

    private long someNumber() {
        switch (random.nextInt(5)) {
            case 0: return random.nextLong();
            case 1: return random.nextInt(1000);
            case 2: return 99999999999999L - random.nextInt(3);
            default: return random.nextLong() >>> 17;
        }
    }

    private void go() {
        int place = random.nextInt(66) - 1;
        due("go(" + place + ")", chip.go(place), model.go(place));
    }

    private void run() {
        int n = random.nextInt(3) > 0 ? random.nextInt(6) : random.nextInt(404) - 2;
        int got;
        try {
            got = chip.run(n);
        } catch (IllegalArgumentException e) {
            got = -2;
        }
        due("run(" + n + ")", got, model.run(n));
    }

    private void look() {
        int what = random.nextInt(17) - 1;
        due("state(" + what + ")", chip.state(what), model.state(what));
        due("display(" + what + ")", chip.display(what), model.display(what));
        due("value(" + what + ")", chip.value(what), model.value(what));
        due("keys()", chip.keys(), model.keys.size());
    }

    private void lookAtAll() {
        for (int what = -1; what < 17; what++) {
            due("state(" + what + ")", chip.state(what), model.state(what));
            due("display(" + what + ")", chip.display(what), model.display(what));
            due("value(" + what + ")", chip.value(what), model.value(what));
        }
        for (int place = -1; place <= 64; place++) {
            due("word(" + place + ")", chip.word(place), model.word(place));
        }
        due("keys()", chip.keys(), model.keys.size());
        due("illAt()", chip.illAt(), model.ill);
    }
}
