import java.lang.reflect.Constructor;
import java.lang.reflect.Field;
import java.lang.reflect.Member;
import java.lang.reflect.Method;
import java.lang.reflect.Modifier;
import java.util.Arrays;
import java.util.Set;
import java.util.TreeSet;
import java.util.stream.Collectors;

/** The class shows the document's public face and nothing else (LANGUAGE.md, rule 1). */
public final class FaceTest {
    private static final Set<String> FACE = new TreeSet<>(Arrays.asList(
            "int NONE", "HouseLedger()", "int account(int)", "int entry(long)", "boolean row(int, int, long)",
            "int close(int) throws IllegalArgumentException", "long balance(int, long)",
            "int payment(int, long, long)", "long item(int, int)", "int opened(int, int)", "int dun(int, long)",
            "boolean hardship(int, long, long)", "int instal(int, int)", "long due(int, int)",
            "boolean move(int, int, long)", "long share(int, int, int)", "int batch()",
            "boolean endBatch(boolean)", "boolean closeMonth(int)", "int reverse(int, long)",
            "long interest(int, long, int)", "boolean rate(long, long)", "int statement(int, int, int)",
            "long tax(int)", "long found(int)"));
    private static final Check CHECK = new Check("FaceTest");

    public static void main(String[] args) {
        CHECK.part("rule 1");
        CHECK.yes("public and final", HouseLedger.class.getModifiers() == (Modifier.PUBLIC | Modifier.FINAL));
        Set<String> shown = new TreeSet<>();
        Set<String> names = new TreeSet<>();
        for (Constructor<?> one : HouseLedger.class.getDeclaredConstructors()) {
            show(shown, one, "HouseLedger" + list(one.getParameterTypes()));
        }
        for (Field one : HouseLedger.class.getDeclaredFields()) {
            show(shown, one, one.getType().getSimpleName() + " " + one.getName());
        }
        for (Method one : HouseLedger.class.getDeclaredMethods()) {
            String thrown = one.getExceptionTypes().length == 0 ? ""
                    : " throws " + one.getExceptionTypes()[0].getSimpleName();
            show(shown, one, one.getReturnType().getSimpleName() + " " + one.getName()
                    + list(one.getParameterTypes()) + thrown);
            CHECK.yes(one.getName() + " is the name of one method alone", names.add(one.getName()));
        }
        for (Class<?> one : HouseLedger.class.getDeclaredClasses()) {
            CHECK.yes(one + " is static", Modifier.isStatic(one.getModifiers()));
            CHECK.no(one + " is public or protected", Modifier.isPublic(one.getModifiers())
                    || Modifier.isProtected(one.getModifiers()));
            for (Method method : one.getDeclaredMethods()) {
                CHECK.no(method + " bears a name of the face", names.contains(method.getName()));
            }
        }
        CHECK.yes("shown " + shown + ", due is " + FACE, shown.equals(FACE));
        CHECK.end();
    }

    private static void show(Set<String> shown, Member member, String text) {
        if (!Modifier.isPrivate(member.getModifiers())) {
            CHECK.yes(text + " is public", Modifier.isPublic(member.getModifiers()));
            shown.add(text);
        }
        if (member instanceof Field && Modifier.isStatic(member.getModifiers())) {
            CHECK.yes(text + " is final", Modifier.isFinal(member.getModifiers()));
        }
    }

    private static String list(Class<?>[] types) {
        return Arrays.stream(types).map(Class::getSimpleName).collect(Collectors.joining(", ", "(", ")"));
    }
}
