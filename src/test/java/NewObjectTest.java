/** Promise 1: a new object. */
public final class NewObjectTest {
    public static void main(String[] args) {
        DigitChip chip = new DigitChip();
        Check.words(chip, "of a new object");
        Check.values(chip, "of a new object", 0, 0, 0, 0, 0, 0, 0);
        Check.states(chip, "of a new object", 0, 0, 0, 0, 0);
        Check.due("keys() of a new object", chip.keys(), 0);
        Check.due("illAt() of a new object", chip.illAt(), DigitChip.NONE);
        Check.due("assemble() of no text", chip.assemble(), 0);
        objectsDoNotShare();
        Check.end();
    }

    private static void objectsDoNotShare() {
        DigitChip used = Check.chip("p=5 s3+ l7 ?s3 stop");
        used.key(4);
        used.run(4);
        used.set(0, 77);
        used.type('x');
        DigitChip chip = new DigitChip();
        Check.words(chip, "beside a used object");
        Check.values(chip, "beside a used object", 0, 0, 0, 0, 0, 0, 0);
        Check.states(chip, "beside a used object", 0, 0, 0, 0, 0);
        Check.due("keys() beside a used object", chip.keys(), 0);
        Check.due("assemble() beside a used object", chip.assemble(), 0);
        Check.states(used, "of the used object", 4, 8, 1, 4, 0);
    }
}
