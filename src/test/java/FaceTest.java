import java.lang.reflect.Constructor;
import java.lang.reflect.Field;
import java.lang.reflect.Member;
import java.lang.reflect.Method;
import java.lang.reflect.Modifier;
import java.util.Arrays;
import java.util.TreeSet;

/** "The public face": every member of the document, and no other that is not private. */
public final class FaceTest {
    private static final String[] METHODS = {
        "public int wish(int,int,int,int,int) throws IllegalArgumentException,IllegalStateException",
        "public void allow(int,int,int,int) throws IllegalArgumentException,IllegalStateException",
        "public boolean refuse(int,int,boolean) throws IllegalArgumentException,IllegalStateException",
        "public boolean loop(boolean)",
        "public void open(int,int) throws IllegalArgumentException,IllegalStateException",
        "public void close(int) throws IllegalArgumentException,IllegalStateException",
        "public int deliver(int) throws IllegalArgumentException,NoSuchElementException",
        "public int lose(int) throws IllegalArgumentException,NoSuchElementException",
        "public int tick()",
        "public int time()",
        "public int state(int) throws IllegalArgumentException",
        "public int tries(int) throws IllegalArgumentException",
        "public int asked(int,int) throws IllegalArgumentException",
        "public int granted(int,int) throws IllegalArgumentException",
        "public int allowed(int,int) throws IllegalArgumentException",
        "public int waiting(int) throws IllegalArgumentException",
        "public int kindAt(int,int) throws IllegalArgumentException,NoSuchElementException",
        "public int lineLength(int) throws IllegalArgumentException",
        "public char lineChar(int,int) throws IllegalArgumentException,NoSuchElementException",
    };

    private static final String[] CONSTANTS = {
        "NONE -1", "CLOSED 0", "ASKING 1", "HEARD 2", "TOLD 3", "OPENED 4", "CLOSING 5",
        "FAILED 6", "LOOPED 7", "REQUEST 0", "YES 1", "COUNTER 2", "REFUSAL 3", "BYE 4",
        "BYE_BYE 5",
    };

    public static void main(String[] args) throws IllegalAccessException {
        classIsPublicAndFinal();
        methodsAreThoseOfTheDocument();
        constantsAreThoseOfTheDocument();
        constructorIsThatOfTheDocument();
        noPrivateMethodBearsAPublicName();
        Check.finish();
    }

    private static void classIsPublicAndFinal() {
        Check.same("modifiers of the class", Modifier.toString(OptionWire.class.getModifiers()),
                "public final");
        Check.same("package of the class", OptionWire.class.getPackageName(), "");
    }

    private static void methodsAreThoseOfTheDocument() {
        TreeSet<String> got = new TreeSet<>();
        for (Method method : OptionWire.class.getDeclaredMethods()) {
            if (isSeen(method)) {
                got.add(method.toGenericString().replace("OptionWire.", "")
                        .replace("java.lang.", "").replace("java.util.", ""));
            }
        }
        Check.same("methods", got.toString(), new TreeSet<>(Arrays.asList(METHODS)).toString());
    }

    private static void constantsAreThoseOfTheDocument() throws IllegalAccessException {
        TreeSet<String> got = new TreeSet<>();
        for (Field field : OptionWire.class.getDeclaredFields()) {
            if (isSeen(field)) {
                Check.same("modifiers of " + field.getName(),
                        Modifier.toString(field.getModifiers()), "public static final");
                got.add(field.getName() + " " + field.getInt(null));
            }
        }
        Check.same("constants", got.toString(), new TreeSet<>(Arrays.asList(CONSTANTS)).toString());
    }

    private static void constructorIsThatOfTheDocument() {
        TreeSet<String> got = new TreeSet<>();
        for (Constructor<?> constructor : OptionWire.class.getDeclaredConstructors()) {
            if (isSeen(constructor)) {
                got.add(constructor.toString());
            }
        }
        Check.same("constructors", got.toString(), "[public OptionWire()]");
    }

    private static void noPrivateMethodBearsAPublicName() {
        TreeSet<String> open = new TreeSet<>();
        for (Method method : OptionWire.class.getDeclaredMethods()) {
            if (Modifier.isPublic(method.getModifiers())) {
                open.add(method.getName());
            }
        }
        checkNames(OptionWire.class, open);
        for (Class<?> inside : OptionWire.class.getDeclaredClasses()) {
            Check.same(inside.getName() + " is public or protected",
                    (inside.getModifiers() & (Modifier.PUBLIC | Modifier.PROTECTED)) != 0, false);
            checkNames(inside, open);
        }
    }

    private static void checkNames(Class<?> type, TreeSet<String> open) {
        for (Method method : type.getDeclaredMethods()) {
            if (!Modifier.isPublic(method.getModifiers())) {
                Check.same(type.getName() + "." + method.getName() + " bears a public name",
                        open.contains(method.getName()), false);
            }
        }
    }

    private static boolean isSeen(Member member) {
        return !Modifier.isPrivate(member.getModifiers()) && !member.isSynthetic();
    }
}
