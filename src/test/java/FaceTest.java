import java.lang.reflect.Constructor;
import java.lang.reflect.Field;
import java.lang.reflect.Method;
import java.lang.reflect.Modifier;
import java.util.Set;
import java.util.TreeSet;

/** The public face: just the members of the document, and the rules for the others. */
public final class FaceTest {
    private static final Set<String> FACE = Set.of(
        "public boolean DigitChip.type(char)",
        "public int DigitChip.assemble() throws java.lang.IllegalArgumentException",
        "public int DigitChip.illAt()",
        "public int DigitChip.word(int)",
        "public boolean DigitChip.poke(int,int)",
        "public boolean DigitChip.key(int)",
        "public int DigitChip.keys()",
        "public int DigitChip.run(int) throws java.lang.IllegalArgumentException",
        "public long DigitChip.value(int)",
        "public boolean DigitChip.set(int,long)",
        "public int DigitChip.state(int)",
        "public boolean DigitChip.go(int)",
        "public int DigitChip.display(int)");

    public static void main(String[] args) {
        Class<?> chip = DigitChip.class;
        Check.due("NONE", DigitChip.NONE, -1);
        Check.due("public final class", chip.getModifiers(), Modifier.PUBLIC | Modifier.FINAL);
        Check.due("constructors", chip.getDeclaredConstructors().length, 1);
        for (Constructor<?> constructor : chip.getDeclaredConstructors()) {
            Check.due("constructor " + constructor, constructor.toString().equals("public DigitChip()"), true);
        }
        fields(chip);
        methods(chip);
        classes(chip);
        Check.end();
    }

    private static void fields(Class<?> chip) {
        for (Field field : chip.getDeclaredFields()) {
            boolean constant = field.toString().equals("public static final int DigitChip.NONE");
            Check.due("field " + field, constant || Modifier.isPrivate(field.getModifiers()), true);
            Check.due("static field " + field + " is final",
                !Modifier.isStatic(field.getModifiers()) || Modifier.isFinal(field.getModifiers()), true);
        }
    }

    private static void methods(Class<?> chip) {
        Set<String> found = new TreeSet<>();
        Set<String> names = new TreeSet<>();
        for (Method method : chip.getDeclaredMethods()) {
            if (!Modifier.isPrivate(method.getModifiers())) {
                found.add(method.toString());
                names.add(method.getName());
            }
        }
        Check.due("methods " + found, found.equals(FACE), true);
        for (Method method : chip.getDeclaredMethods()) {
            Check.due("private " + method.getName() + " with a public name",
                Modifier.isPrivate(method.getModifiers()) && names.contains(method.getName()), false);
        }
    }

    private static void classes(Class<?> chip) {
        for (Class<?> inside : chip.getDeclaredClasses()) {
            int modifiers = inside.getModifiers();
            Check.due(inside + " is static", Modifier.isStatic(modifiers), true);
            Check.due(inside + " is hidden", Modifier.isPublic(modifiers) || Modifier.isProtected(modifiers), false);
        }
    }
}
