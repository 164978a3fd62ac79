import java.util.Map;
import java.util.TreeMap;

/** Every name of the assembler, and every text of one name that is nearly one of them. */
public final class NamesTest {
    private static final int NAMES_OF_A_CHIP = 30;
    private static final int NO_WORD = -1;
    private static final int MISSING_LABEL = -2;
    private static final String KIND_0 =
        "no p=N ?p=N sN+ sN- ?sN lN p+ p- push pop back key stop C:M down";
    private static final String KIND_2 =
        "A=0 B=0 C=0 A:B B=A A:C C=B B:C A=A+B A=A+C C=A+C A=A+1 C=C+1 A=A-B A=A-C C=A-C A=A-1 C=C-1 C=-C C=-C-1 "
        + "A< A> B> C> ?A<B ?A<C ?B ?C ?A=0 ?C=0 C=C+C A=C";

    private final Map<String, Integer> names = new TreeMap<>();
    private DigitChip chip = new DigitChip();
    private int typed = 0;

    public static void main(String[] args) {
        NamesTest test = new NamesTest();
        test.collect();
        Check.due("how many names", test.names.size(), 10 + 6 * 16 + 32 * 8 + 3 * 26);
        for (String name : test.names.keySet()) {
            test.look(name);
            test.lookAtNeighbours(name);
        }
        test.lookAtShortOnes();
        Check.end();
    }

    private void collect() {
        String[] plain = KIND_0.split(" ");
        for (int operation = 0; operation < plain.length; operation++) {
            for (int n = 0; n < 16; n++) {
                boolean hasN = plain[operation].contains("N");
                if (hasN || n == 0) {
                    names.put(plain[operation].replace("N", Integer.toHexString(n)), n * 64 + operation * 4);
                }
            }
        }
        String[] work = KIND_2.split(" ");
        for (int operation = 0; operation < work.length; operation++) {
            for (int field = 0; field < 8; field++) {
                names.put(work[operation] + "." + "pqexsmnw".charAt(field), operation * 32 + field * 4 + 2);
            }
        }
        for (char letter = 'a'; letter <= 'z'; letter++) {
            names.put(":" + letter, NO_WORD);
            names.put(">" + letter, MISSING_LABEL);
            names.put("@" + letter, MISSING_LABEL);
        }
    }

    /** Each text with one character left out, one changed, one more, or two of them changed with one another. */
    private void lookAtNeighbours(String name) {
        for (int i = 0; i <= name.length(); i++) {
            String before = name.substring(0, i);
            String from = name.substring(i);
            for (char c = 33; c < 127; c++) {
                look(before + c + from);
                if (!from.isEmpty()) {
                    look(before + c + from.substring(1));
                }
            }
            if (from.length() > 0 && name.length() > 1) {
                look(before + from.substring(1));
            }
            if (from.length() > 1) {
                look(before + from.charAt(1) + from.charAt(0) + from.substring(2));
            }
        }
        look(name + name);
    }

    private void lookAtShortOnes() {
        for (char first = 33; first < 127; first++) {
            look("" + first);
            for (char second = 33; second < 127; second++) {
                look("" + first + second);
            }
        }
    }

    private void look(String name) {
        typed++;
        if (typed % NAMES_OF_A_CHIP == 0) {
            chip = new DigitChip();
        }
        for (int i = 0; i < name.length(); i++) {
            chip.type(name.charAt(i));
        }
        Integer want = names.get(name);
        boolean good = want != null && want != MISSING_LABEL;
        int words = 0;
        try {
            words = chip.assemble();
        } catch (IllegalArgumentException e) {
            words = -1;
        }
        if (!good) {
            Check.due("assemble() of \"" + name + "\" (-1 for the exception)", words, -1);
            Check.due("illAt() of \"" + name + "\"", chip.illAt(), 0);
            return;
        }
        Check.due("assemble() of \"" + name + "\"", words, want == NO_WORD ? 0 : 1);
        Check.due("word(0) of \"" + name + "\"", chip.word(0), want == NO_WORD ? 0 : want);
        Check.due("illAt() of \"" + name + "\"", chip.illAt(), DigitChip.NONE);
    }
}
