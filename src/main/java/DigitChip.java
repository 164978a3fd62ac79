import java.util.Arrays;

/** A chip for a pocket calculator, with its assembler; ../shared/DOC.md says what each call does. */
public final class DigitChip {
    public static final int NONE = -1;

    private static final int PLACES = 64;
    private static final int WORDS = 1024;
    private static final int DIGITS = 14;
    private static final int MOST_AT_ONCE = 400;

    private static final int A = 0;
    private static final int B = 1;
    private static final int C = 2;
    private static final int D = 3;
    private static final int E = 4;
    private static final int F = 5;
    private static final int M = 6;
    private static final int REGISTERS = 7;

    private static final int BLANK = 32;
    private static final int MINUS = 45;
    private static final int ZERO = 48;
    private static final int NOT_SHOWN = 9;
    private static final int POINT_BEHIND = 2;
    private static final int NEGATIVE = 9;
    private static final int EXPONENT_SIGN = 2;
    private static final int NUMBER_SIGN = 13;

    private final Assembler assembler;
    private final Processor processor;

    public DigitChip() {
        assembler = new Assembler();
        processor = new Processor();
    }

    public boolean type(char c) {
        return assembler.append(c);
    }

    public int assemble() throws IllegalArgumentException {
        if (!assembler.takeText()) {
            throw new IllegalArgumentException();
        }
        processor.load(assembler.words, assembler.count);
        return assembler.count;
    }

    public int illAt() {
        return assembler.ill;
    }

    public int word(int place) {
        return isPlace(place) ? processor.memory[place] : NONE;
    }

    public boolean poke(int place, int word) {
        if (!isPlace(place) || word < 0 || word >= WORDS) {
            return false;
        }
        processor.memory[place] = word;
        return true;
    }

    public boolean key(int k) {
        return processor.waiting.append(k);
    }

    public int keys() {
        return processor.waiting.count;
    }

    public int run(int n) throws IllegalArgumentException {
        if (n < 0 || n > MOST_AT_ONCE) {
            throw new IllegalArgumentException();
        }
        return processor.doWords(n);
    }

    public long value(int register) {
        return isRegister(register) ? processor.registers.numbers[register] : NONE;
    }

    public boolean set(int register, long v) {
        if (!isRegister(register) || v < 0) {
            return false;
        }
        processor.registers.numbers[register] = v % Registers.TENS[DIGITS];
        return true;
    }

    public int state(int what) {
        switch (what) {
            case 0: return processor.pointer;
            case 1: return processor.status;
            case 2: return processor.carry ? 1 : 0;
            case 3: return processor.place;
            case 4: return processor.back;
            default: return NONE;
        }
    }

    public boolean go(int place) {
        if (!isPlace(place)) {
            return false;
        }
        processor.place = place;
        return true;
    }

    public int display(int place) {
        if (place == DIGITS) {
            return digitBeforePoint();
        }
        return place >= 0 && place < DIGITS ? codeOfDigit(DIGITS - 1 - place) : NONE;
    }

    private static boolean isPlace(int place) {
        return place >= 0 && place < PLACES;
    }

    private static boolean isRegister(int register) {
        return register >= 0 && register < REGISTERS;
    }

    private int codeOfDigit(int k) {
        if (processor.registers.digit(B, k) == NOT_SHOWN) {
            return BLANK;
        }
        int digit = processor.registers.digit(A, k);
        if (k == NUMBER_SIGN || k == EXPONENT_SIGN) {
            return digit == NEGATIVE ? MINUS : BLANK;
        }
        return ZERO + digit;
    }

    private int digitBeforePoint() {
        for (int k = NUMBER_SIGN - 1; k > EXPONENT_SIGN; k--) {
            if (processor.registers.digit(B, k) == POINT_BEHIND) {
                return k;
            }
        }
        return NONE;
    }

    /** The text that is typed, and the words that its names make. */
    private static final class Assembler {
        private static final int LONGEST_TEXT = 240;

        // In these lists N stands for a hexadecimal digit, F for a field's letter, L for a label's letter;
        // the number of a name in its list is its operation.
        private static final String LABEL_NAMES = ":L";
        private static final String GOING_NAMES = "@L >L";
        private static final String PLAIN_NAMES =
            "no p=N ?p=N sN+ sN- ?sN lN p+ p- push pop back key stop C:M down";
        private static final String FIELD_NAMES =
            "A=0.F B=0.F C=0.F A:B.F B=A.F A:C.F C=B.F B:C.F A=A+B.F A=A+C.F C=A+C.F A=A+1.F C=C+1.F A=A-B.F A=A-C.F C=A-C.F A=A-1.F C=C-1.F C=-C.F C=-C-1.F A<.F A>.F B>.F C>.F ?A<B.F ?A<C.F ?B.F ?C.F ?A=0.F ?C=0.F C=C+C.F A=C.F";
        private static final String HEXADECIMAL = "0123456789abcdef";
        private static final String FIELDS = "pqexsmnw";
        private static final String LETTERS = "abcdefghijklmnopqrstuvwxyz";

        private final char[] text = new char[LONGEST_TEXT];
        private int length = 0;
        private final int[] labels = new int[LETTERS.length()];
        /** Where in the text the name of each word begins. */
        private final int[] begins = new int[PLACES];
        /** What the name that was found last has for N, F or L: its number, 0 if there is none of them. */
        private int choice = 0;
        final int[] words = new int[PLACES];
        int count = 0;
        int ill = NONE;

        boolean append(char c) {
            if (c < 32 || c > 126 || length >= LONGEST_TEXT) {
                return false;
            }
            text[length] = c;
            length++;
            return true;
        }

        /** Makes the words of the text, and empties it; false if it is ILL. */
        boolean takeText() {
            count = 0;
            ill = NONE;
            Arrays.fill(labels, NONE);
            for (int at = 0; at < length && ill == NONE; at++) {
                if (beginsName(at) && !takeName(at, endOfName(at))) {
                    ill = at;
                }
            }
            // Only now, as a label may come behind the names that go to it.
            fillInLabels();
            length = 0;
            return ill == NONE;
        }

        private boolean beginsName(int at) {
            return text[at] != ' ' && (at == 0 || text[at - 1] == ' ');
        }

        private int endOfName(int at) {
            int end = at;
            while (end < length && text[end] != ' ') {
                end++;
            }
            return end;
        }

        private boolean takeName(int at, int end) {
            if (findName(LABEL_NAMES, at, end) != NONE) {
                return takeLabel(choice);
            }
            int made = wordOfName(at, end);
            if (made == NONE || count >= PLACES) {
                return false;
            }
            words[count] = made;
            begins[count] = at;
            count++;
            return true;
        }

        private boolean takeLabel(int label) {
            if (labels[label] != NONE) {
                return false;
            }
            labels[label] = count % PLACES;
            return true;
        }

        /** The word of a name, with the label's number for its place; NONE if there is no such name. */
        private int wordOfName(int at, int end) {
            int operation = findName(PLAIN_NAMES, at, end);
            if (operation != NONE) {
                return choice * 64 + operation * 4;
            }
            operation = findName(FIELD_NAMES, at, end);
            if (operation != NONE) {
                return operation * 32 + choice * 4 + 2;
            }
            operation = findName(GOING_NAMES, at, end);
            return operation == NONE ? NONE : choice * 4 + operation * 2 + 1;
        }

        /** The number in a list of the name that the text has from at to end, or NONE. */
        private int findName(String names, int at, int end) {
            int number = 0;
            for (int start = 0; start < names.length(); start++) {
                if (names.charAt(start) == ' ') {
                    number++;
                } else if ((start == 0 || names.charAt(start - 1) == ' ') && isName(names, start, at, end)) {
                    return number;
                }
            }
            return NONE;
        }

        private boolean isName(String names, int start, int at, int end) {
            int behind = start + end - at;
            if (behind > names.length() || (behind < names.length() && names.charAt(behind) != ' ')) {
                return false;
            }
            choice = 0;
            for (int i = at; i < end; i++) {
                char listed = names.charAt(start + i - at);
                if (listed == 'N') {
                    choice = HEXADECIMAL.indexOf(text[i]);
                } else if (listed == 'F') {
                    choice = FIELDS.indexOf(text[i]);
                } else if (listed == 'L') {
                    choice = LETTERS.indexOf(text[i]);
                } else if (listed != text[i]) {
                    return false;
                }
                if (choice < 0) {
                    return false;
                }
            }
            return true;
        }

        private void fillInLabels() {
            for (int i = 0; i < count && ill == NONE; i++) {
                // Only the words of the kinds 1 and 3 go to a label.
                if (words[i] % 2 == 0) {
                    continue;
                }
                int target = labels[words[i] / 4];
                if (target == NONE) {
                    ill = begins[i];
                } else {
                    words[i] = target * 4 + words[i] % 4;
                }
            }
        }
    }

    /** The keys that wait, the first one at 0. */
    private static final class Waiting {
        private static final int MOST = 3;
        private static final int KEYS = 16;

        private final int[] row = new int[MOST];
        int count = 0;

        boolean append(int k) {
            if (k < 0 || k >= KEYS || count >= MOST) {
                return false;
            }
            row[count] = k;
            count++;
            return true;
        }

        /** The first key, that is gone then; NONE if none waits. */
        int takeFirst() {
            if (count == 0) {
                return NONE;
            }
            int first = row[0];
            count--;
            for (int i = 0; i < count; i++) {
                row[i] = row[i + 1];
            }
            return first;
        }
    }

    /** The registers as numbers, and the field of them that is worked on. */
    private static final class Registers {
        static final long[] TENS = {
            1L, 10L, 100L, 1000L, 10000L, 100000L, 1000000L, 10000000L, 100000000L, 1000000000L,
            10000000000L, 100000000000L, 1000000000000L, 10000000000000L, 100000000000000L
        };

        final long[] numbers = new long[REGISTERS];
        /** The place value of the field's lowest digit. */
        private long unit = 1;
        /** One more than the greatest number of the field. */
        long limit = 1;

        int digit(int register, int k) {
            return (int) (numbers[register] / TENS[k] % 10);
        }

        void chooseField(int field, int pointer) {
            switch (field) {
                case 0: chooseDigits(pointer, pointer); break;
                case 1: chooseDigits(0, pointer); break;
                case 2: chooseDigits(2, 2); break;
                case 3: chooseDigits(0, 2); break;
                case 4: chooseDigits(13, 13); break;
                case 5: chooseDigits(3, 12); break;
                case 6: chooseDigits(3, 13); break;
                default: chooseDigits(0, 13); break;
            }
        }

        private void chooseDigits(int low, int high) {
            unit = TENS[low];
            limit = TENS[high - low + 1];
        }

        long part(int register) {
            return numbers[register] / unit % limit;
        }

        void putPart(int register, long part) {
            numbers[register] += (part - part(register)) * unit;
        }
    }

    /** The memory and what does its words. */
    private static final class Processor {
        private static final int STATUS_BITS = 12;

        final int[] memory = new int[PLACES];
        final Registers registers = new Registers();
        final Waiting waiting = new Waiting();
        int pointer = 0;
        int status = 0;
        boolean carry = false;
        int place = 0;
        int back = 0;
        private boolean ended = false;

        void load(int[] words, int count) {
            for (int i = 0; i < PLACES; i++) {
                memory[i] = i < count ? words[i] : 0;
            }
            place = 0;
        }

        int doWords(int most) {
            ended = false;
            int done = 0;
            while (done < most && !ended) {
                doWord(memory[place]);
                done++;
            }
            return done;
        }

        private void doWord(int word) {
            boolean carried = carry;
            carry = false;
            place = (place + 1) % PLACES;
            int target = word / 4 % PLACES;
            switch (word % 4) {
                case 0:
                    doPlain(word / 4 % 16, word / 64);
                    break;
                case 1:
                    back = place;
                    place = target;
                    break;
                case 2:
                    registers.chooseField(word / 4 % 8, pointer);
                    doFieldWork(word / 32, registers.part(A), registers.part(B), registers.part(C));
                    break;
                default:
                    if (!carried) {
                        place = target;
                    }
                    break;
            }
        }

        private void doPlain(int operation, int n) {
            switch (operation) {
                case 1: pointer = n % DIGITS; break;
                case 2: carry = pointer == n; break;
                case 3: setStatus(n); break;
                case 4: clearStatus(n); break;
                case 5: carry = hasStatus(n); break;
                case 6: putDigit(n % 10); break;
                case 7: pointer = (pointer + 1) % DIGITS; break;
                case 8: lowerPointer(); break;
                case 9: push(); break;
                case 10: copy(D, A); lowerStack(); break;
                case 11: place = back; break;
                case 12: takeKey(); break;
                case 13: ended = true; break;
                case 14: exchangeMemory(); break;
                case 15: copy(C, A); copy(D, C); lowerStack(); break;
                default: break;
            }
        }

        private void setStatus(int n) {
            if (n < STATUS_BITS) {
                status |= 1 << n;
            }
        }

        private void clearStatus(int n) {
            if (n < STATUS_BITS) {
                status &= ~(1 << n);
            }
        }

        private boolean hasStatus(int n) {
            return n < STATUS_BITS && (status >> n & 1) == 1;
        }

        private void putDigit(int digit) {
            registers.chooseField(0, pointer);
            registers.putPart(C, digit);
            lowerPointer();
        }

        private void lowerPointer() {
            pointer = (pointer + DIGITS - 1) % DIGITS;
        }

        private void copy(int from, int to) {
            registers.numbers[to] = registers.numbers[from];
        }

        private void push() {
            copy(E, F);
            copy(D, E);
            copy(C, D);
        }

        private void lowerStack() {
            copy(E, D);
            copy(F, E);
        }

        private void takeKey() {
            int first = waiting.takeFirst();
            if (first == NONE) {
                place = (place + PLACES - 1) % PLACES;
                ended = true;
            } else {
                place = first * 8 % PLACES;
            }
        }

        private void exchangeMemory() {
            long old = registers.numbers[C];
            copy(M, C);
            registers.numbers[M] = old;
        }

        /** Does an operation on the chosen field, whose parts of A, B and C are a, b and c. */
        private void doFieldWork(int operation, long a, long b, long c) {
            switch (operation) {
                case 0: registers.putPart(A, 0); break;
                case 1: registers.putPart(B, 0); break;
                case 2: registers.putPart(C, 0); break;
                case 3: registers.putPart(A, b); registers.putPart(B, a); break;
                case 4: registers.putPart(B, a); break;
                case 5: registers.putPart(A, c); registers.putPart(C, a); break;
                case 6: registers.putPart(C, b); break;
                case 7: registers.putPart(B, c); registers.putPart(C, b); break;
                case 8: putResult(A, a + b); break;
                case 9: putResult(A, a + c); break;
                case 10: putResult(C, a + c); break;
                case 11: putResult(A, a + 1); break;
                case 12: putResult(C, c + 1); break;
                case 13: putResult(A, a - b); break;
                case 14: putResult(A, a - c); break;
                case 15: putResult(C, a - c); break;
                case 16: putResult(A, a - 1); break;
                case 17: putResult(C, c - 1); break;
                case 18: putResult(C, 0 - c); break;
                case 19: putResult(C, 0 - c - 1); break;
                case 20: registers.putPart(A, a * 10 % registers.limit); break;
                case 21: registers.putPart(A, a / 10); break;
                case 22: registers.putPart(B, b / 10); break;
                case 23: registers.putPart(C, c / 10); break;
                case 24: carry = a < b; break;
                case 25: carry = a < c; break;
                case 26: carry = b != 0; break;
                case 27: carry = c != 0; break;
                case 28: carry = a == 0; break;
                case 29: carry = c == 0; break;
                case 30: putResult(C, c + c); break;
                default: registers.putPart(A, c); break;
            }
        }

        /** Puts a sum or a difference into the chosen field, and the carry if it does not fit. */
        private void putResult(int register, long result) {
            carry = result < 0 || result >= registers.limit;
            registers.putPart(register, Math.floorMod(result, registers.limit));
        }
    }
}
