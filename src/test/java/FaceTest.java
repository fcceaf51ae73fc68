import java.lang.reflect.Constructor;
import java.lang.reflect.Field;
import java.lang.reflect.Method;
import java.lang.reflect.Modifier;
import java.nio.file.Files;
import java.nio.file.Path;
import java.util.Arrays;
import java.util.TreeSet;

/** The public face, and of LANGUAGE.md what can be seen from outside or by single words. */
public final class FaceTest {
    private static final String METHODS = "addAsset/2 addHunter/0 appeal/2 asset/2 best/1 count/1 decide/2 fill/1 "
            + "fold/1 grade/2 hunter/2 lack/0 original/1 paidIn/1 pass/1 pay/1 refuse/1 report/3 reportOf/2 "
            + "retest/3 setBonus/1 setRate/1 undo/0";
    private static final String FORBIDDEN = "throw throws try catch finally synchronized assert import package "
            + "instanceof volatile native protected this equals hashCode";

    public static void main(String[] args) throws Exception {
        theClass();
        constants();
        methods();
        hiddenMembers();
        words();
        Script.end();
    }

    private static void theClass() {
        Script.same("modifiers", Modifier.toString(BountyDesk.class.getModifiers()), "public final");
        Constructor<?>[] constructors = BountyDesk.class.getDeclaredConstructors();
        Script.same("constructors", Arrays.toString(constructors), "[public BountyDesk()]");
    }

    private static void constants() throws Exception {
        TreeSet<String> found = new TreeSet<>();
        for (Field field : BountyDesk.class.getDeclaredFields()) {
            if (!Modifier.isPrivate(field.getModifiers())) {
                Script.same(field.getName(), field.toGenericString(),
                        "public static final int BountyDesk." + field.getName());
                found.add(field.getName() + field.getInt(null));
            }
        }
        Script.same("constants", found.toString(),
                "[CAPACITY_EXCEEDED-10003, ILLEGAL_STATE-10002, INVALID_ARGUMENT-10001, NONE-10009]");
    }

    private static void methods() {
        TreeSet<String> found = new TreeSet<>();
        for (Method method : BountyDesk.class.getDeclaredMethods()) {
            if (!Modifier.isPrivate(method.getModifiers())) {
                boolean isPlain = method.getModifiers() == Modifier.PUBLIC && method.getReturnType() == int.class
                        && Arrays.stream(method.getParameterTypes()).allMatch(type -> type == int.class);
                found.add(method.getName() + "/" + (isPlain ? method.getParameterCount() : "not as told"));
            }
        }
        Script.same("methods", String.join(" ", found), METHODS);
    }

    /** No private method has the name of a public one; classes inside are static, static fields final. */
    private static void hiddenMembers() {
        for (Method method : BountyDesk.class.getDeclaredMethods()) {
            boolean isHidden = Modifier.isPrivate(method.getModifiers());
            boolean isTold = (" " + METHODS).contains(" " + method.getName() + "/");
            Script.same("private method " + method.getName(), "" + (isHidden && isTold), "false");
        }
        for (Class<?> inside : BountyDesk.class.getDeclaredClasses()) {
            int modifiers = inside.getModifiers();
            boolean isFine = Modifier.isStatic(modifiers) && !Modifier.isPublic(modifiers)
                    && !Modifier.isProtected(modifiers);
            Script.same("class " + inside.getName(), "" + isFine, "true");
            Script.same("fields of " + inside.getName(), "" + (inside.getDeclaredFields().length <= 20), "true");
        }
        for (Field field : BountyDesk.class.getDeclaredFields()) {
            boolean isLoose = Modifier.isStatic(field.getModifiers()) && !Modifier.isFinal(field.getModifiers());
            Script.same("field " + field.getName(), "" + isLoose, "false");
        }
    }

    private static void words() throws Exception {
        String source = Files.readString(Path.of("src/main/java/BountyDesk.java"));
        String code = source.replaceAll("(?s)/\\*.*?\\*/", " ").replaceAll("//[^\n]*", " ");
        TreeSet<String> words = new TreeSet<>(Arrays.asList(code.split("[^A-Za-z0-9_]+")));
        for (String word : FORBIDDEN.split(" ")) {
            Script.same("the word " + word, "" + words.contains(word), "false");
        }
        Script.same("no lambda or method reference", "" + (code.contains("->") || code.contains("::")), "false");
    }
}
