import java.math.BigInteger;
import java.util.ArrayDeque;
import java.util.ArrayList;
import java.util.HashMap;
import java.util.List;
import java.util.Map;
import java.util.regex.Matcher;
import java.util.regex.Pattern;

/** The chip once more, on purpose in another way: registers are rows of digits, names are found by patterns. */
final class Model {
    private static final String[] WORKS = {
        "A=0", "B=0", "C=0", "A:B", "B=A", "A:C", "C=B", "B:C", "A=A+B", "A=A+C", "C=A+C", "A=A+1", "C=C+1", "A=A-B",
        "A=A-C", "C=A-C", "A=A-1", "C=C-1", "C=-C", "C=-C-1", "A<", "A>", "B>", "C>", "?A<B", "?A<C", "?B", "?C",
        "?A=0", "?C=0", "C=C+C", "A=C"
    };
    private static final String[] PLAIN = {
        "no", "p=([0-9a-f])", "\\?p=([0-9a-f])", "s([0-9a-f])\\+", "s([0-9a-f])-", "\\?s([0-9a-f])", "l([0-9a-f])",
        "p\\+", "p-", "push", "pop", "back", "key", "stop", "C:M", "down"
    };
    private static final Pattern NAME = Pattern.compile("[^ ]+");
    private static final Pattern[] PLAIN_PATTERNS = new Pattern[PLAIN.length];

    static {
        for (int i = 0; i < PLAIN.length; i++) {
            PLAIN_PATTERNS[i] = Pattern.compile(PLAIN[i]);
        }
    }

    private final int[][] digits = new int[7][14];
    private final boolean[] status = new boolean[12];
    private final int[] memory = new int[64];
    private final StringBuilder text = new StringBuilder();
    final ArrayDeque<Integer> keys = new ArrayDeque<>();
    private int pointer;
    private int carry;
    private int place;
    private int back;
    private boolean ended;
    int ill = -1;

    boolean type(char c) {
        if (c < ' ' || c > '~' || text.length() == 240) {
            return false;
        }
        text.append(c);
        return true;
    }

    /** -2 stands for the exception. */
    int assemble() {
        String taken = text.toString();
        text.setLength(0);
        List<Integer> words = new ArrayList<>();
        Map<Character, Integer> labels = new HashMap<>();
        ill = -1;
        for (Matcher m = NAME.matcher(taken); m.find(); ) {
            String name = m.group();
            if (name.matches(":[a-z]")) {
                if (labels.put(name.charAt(1), words.size() == 64 ? 0 : words.size()) != null) {
                    ill = m.start();
                    return -2;
                }
                continue;
            }
            int word = wordOf(name);
            if (word < 0 || words.size() == 64) {
                ill = m.start();
                return -2;
            }
            words.add(word);
        }
        int at = 0;
        for (Matcher m = NAME.matcher(taken); m.find(); ) {
            String name = m.group();
            if (name.matches("[>@][a-z]")) {
                if (!labels.containsKey(name.charAt(1))) {
                    ill = m.start();
                    return -2;
                }
                words.set(at, (labels.get(name.charAt(1)) << 2) | words.get(at));
            }
            at += name.startsWith(":") ? 0 : 1;
        }
        for (int i = 0; i < 64; i++) {
            memory[i] = i < words.size() ? words.get(i) : 0;
        }
        place = 0;
        return words.size();
    }

    private static int wordOf(String name) {
        if (name.matches("[>@][a-z]")) {
            return name.charAt(0) == '>' ? 3 : 1;
        }
        for (int i = 0; i < PLAIN.length; i++) {
            Matcher m = PLAIN_PATTERNS[i].matcher(name);
            if (m.matches()) {
                return (m.groupCount() == 0 ? 0 : Integer.parseInt(m.group(1), 16)) << 6 | i << 2;
            }
        }
        for (int i = 0; i < WORKS.length; i++) {
            for (int field = 0; field < 8; field++) {
                if (name.equals(WORKS[i] + "." + "pqexsmnw".charAt(field))) {
                    return i << 5 | field << 2 | 2;
                }
            }
        }
        return -1;
    }

    int word(int at) {
        return at >= 0 && at <= 63 ? memory[at] : -1;
    }

    boolean poke(int at, int word) {
        if (at < 0 || at > 63 || word < 0 || word > 1023) {
            return false;
        }
        memory[at] = word;
        return true;
    }

    boolean key(int k) {
        return k >= 0 && k <= 15 && keys.size() < 3 && keys.add(k);
    }

    /** -2 stands for the exception. */
    int run(int n) {
        if (n < 0 || n > 400) {
            return -2;
        }
        ended = false;
        for (int done = 1; done <= n; done++) {
            step();
            if (ended) {
                return done;
            }
        }
        return n;
    }

    long value(int register) {
        if (register < 0 || register > 6) {
            return -1;
        }
        long sum = 0;
        for (int k = 13; k >= 0; k--) {
            sum = sum * 10 + digits[register][k];
        }
        return sum;
    }

    boolean set(int register, long v) {
        if (register < 0 || register > 6 || v < 0) {
            return false;
        }
        String written = "0".repeat(14) + v;
        for (int k = 0; k < 14; k++) {
            digits[register][k] = written.charAt(written.length() - 1 - k) - '0';
        }
        return true;
    }

    int state(int what) {
        int bits = 0;
        for (int n = 0; n < 12; n++) {
            bits += status[n] ? 1 << n : 0;
        }
        int[] all = {pointer, bits, carry, place, back};
        return what >= 0 && what < 5 ? all[what] : -1;
    }

    boolean go(int to) {
        if (to < 0 || to > 63) {
            return false;
        }
        place = to;
        return true;
    }

    int display(int at) {
        if (at == 14) {
            int point = -1;
            for (int k = 3; k <= 12; k++) {
                point = digits[1][k] == 2 ? k : point;
            }
            return point;
        }
        if (at < 0 || at > 14) {
            return -1;
        }
        int k = 13 - at;
        String shown = k == 13 || k == 2 ? "         -" : "0123456789";
        return digits[1][k] == 9 ? ' ' : shown.charAt(digits[0][k]);
    }

    private void step() {
        int word = memory[place];
        int own = place;
        int before = carry;
        place = own == 63 ? 0 : own + 1;
        carry = 0;
        int to = (word >> 2) & 63;
        if ((word & 3) == 1) {
            back = place;
            place = to;
        } else if ((word & 3) == 3) {
            place = before == 0 ? to : place;
        } else if ((word & 3) == 2) {
            work(word >> 5, (word >> 2) & 7);
        } else {
            plain((word >> 2) & 15, word >> 6, own);
        }
    }

    private void plain(int operation, int n, int own) {
        if (operation == 1) {
            pointer = n >= 14 ? n - 14 : n;
        } else if (operation == 2) {
            carry = n == pointer ? 1 : 0;
        } else if (operation >= 3 && operation <= 5 && n <= 11) {
            if (operation == 5) {
                carry = status[n] ? 1 : 0;
            } else {
                status[n] = operation == 3;
            }
        } else if (operation == 6) {
            digits[2][pointer] = n >= 10 ? n - 10 : n;
            pointer = pointer == 0 ? 13 : pointer - 1;
        } else if (operation == 7) {
            pointer = pointer == 13 ? 0 : pointer + 1;
        } else if (operation == 8) {
            pointer = pointer == 0 ? 13 : pointer - 1;
        } else if (operation == 11) {
            place = back;
        } else if (operation == 12) {
            ended = keys.isEmpty();
            place = ended ? own : (keys.remove() << 3) & 63;
        } else if (operation == 13) {
            ended = true;
        } else {
            moveWhole(operation);
        }
    }

    private void moveWhole(int operation) {
        // Which register each one comes from, for A B C D E F M.
        String from = "ABCDEFM";
        switch (operation) {
            case 9: from = "ABCCDEM"; break;
            case 10: from = "DBCEFFM"; break;
            case 14: from = "ABMDEFC"; break;
            case 15: from = "CBDEFFM"; break;
            default: break;
        }
        int[][] old = new int[7][];
        for (int r = 0; r < 7; r++) {
            old[r] = digits[r].clone();
        }
        for (int r = 0; r < 7; r++) {
            digits[r] = old["ABCDEFM".indexOf(from.charAt(r))].clone();
        }
    }

    private void work(int operation, int field) {
        int[] low = {pointer, 0, 2, 0, 13, 3, 3, 0};
        int[] high = {pointer, pointer, 2, 2, 13, 12, 13, 13};
        String name = WORKS[operation];
        int from = low[field];
        int to = high[field];
        int target = "ABC".indexOf(name.charAt(0));
        if (name.charAt(0) == '?') {
            carry = test(name.substring(1), from, to) ? 1 : 0;
        } else if (name.charAt(1) == ':') {
            BigInteger one = part(name.charAt(0), from, to);
            put(target, part(name.charAt(2), from, to), from, to);
            put("ABC".indexOf(name.charAt(2)), one, from, to);
        } else if (name.charAt(1) == '<') {
            put(target, part(name.charAt(0), from, to).multiply(BigInteger.TEN), from, to);
        } else if (name.charAt(1) == '>') {
            put(target, part(name.charAt(0), from, to).divide(BigInteger.TEN), from, to);
        } else {
            BigInteger result = sum(name.substring(2), from, to);
            BigInteger limit = BigInteger.TEN.pow(to - from + 1);
            carry = result.signum() < 0 || result.compareTo(limit) >= 0 ? 1 : 0;
            put(target, result, from, to);
        }
    }

    private boolean test(String what, int from, int to) {
        BigInteger first = part(what.charAt(0), from, to);
        if (what.length() == 1) {
            return first.signum() != 0;
        }
        BigInteger second = part(what.charAt(2), from, to);
        return what.charAt(1) == '<' ? first.compareTo(second) < 0 : first.equals(second);
    }

    /** What is written behind the = of a name: parts with signs between them. */
    private BigInteger sum(String what, int from, int to) {
        BigInteger sum = BigInteger.ZERO;
        boolean minus = false;
        for (char c : what.toCharArray()) {
            if (c == '+' || c == '-') {
                minus = c == '-';
            } else {
                sum = minus ? sum.subtract(part(c, from, to)) : sum.add(part(c, from, to));
            }
        }
        return sum;
    }

    /** The field of a register by its letter, or a digit that is written there. */
    private BigInteger part(char c, int from, int to) {
        if (c == '0' || c == '1') {
            return BigInteger.valueOf(c - '0');
        }
        BigInteger number = BigInteger.ZERO;
        for (int k = to; k >= from; k--) {
            number = number.multiply(BigInteger.TEN).add(BigInteger.valueOf(digits["ABC".indexOf(c)][k]));
        }
        return number;
    }

    private void put(int register, BigInteger number, int from, int to) {
        BigInteger rest = number.mod(BigInteger.TEN.pow(to - from + 1));
        for (int k = from; k <= to; k++) {
            digits[register][k] = rest.mod(BigInteger.TEN).intValue();
            rest = rest.divide(BigInteger.TEN);
        }
    }
}
