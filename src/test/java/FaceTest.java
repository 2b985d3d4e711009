import java.lang.reflect.Constructor;
import java.lang.reflect.Field;
import java.lang.reflect.Method;
import java.lang.reflect.Modifier;
import java.util.Set;
import java.util.TreeSet;

/** The class shows the document's face, and nothing else. */
public final class FaceTest {
    private static final String[] FACE = {
        "boolean backs(int,int) throws IndexOutOfBoundsException",
        "boolean isOf(int,int,int,int) throws IllegalArgumentException",
        "boolean isUnder(int,int) throws IllegalArgumentException",
        "boolean strict(boolean)",
        "double meanChain(int,int) throws IllegalArgumentException",
        "int anchor(int,boolean) throws IndexOutOfBoundsException",
        "int call(int,int) throws IndexOutOfBoundsException,IllegalArgumentException",
        "int chain(int,int,int,int) throws IndexOutOfBoundsException,IllegalArgumentException",
        "int chains(int) throws IndexOutOfBoundsException",
        "int flawAt(int,int,int) throws IndexOutOfBoundsException,IllegalArgumentException",
        "int good(int,int,int) throws IndexOutOfBoundsException,IllegalArgumentException",
        "int holdsTo(int,int,int) throws IndexOutOfBoundsException,IllegalArgumentException",
        "int letter(int,int,int,int) throws IllegalArgumentException,IllegalStateException",
        "int list(int,int,int) throws IllegalArgumentException,IllegalStateException",
        "int many(int) throws IllegalArgumentException",
        "int master(int,boolean,int) throws IndexOutOfBoundsException,IllegalArgumentException",
        "int ofLetter(int,int) throws IndexOutOfBoundsException,IllegalArgumentException",
        "int ofList(int,int) throws IndexOutOfBoundsException,IllegalArgumentException",
        "int otherwise(int,int,int) throws IndexOutOfBoundsException,IllegalArgumentException",
        "int sign(int,int) throws IndexOutOfBoundsException,IllegalArgumentException",
        "int signList(int,int) throws IndexOutOfBoundsException,IllegalArgumentException",
        "int signed(int,int) throws IllegalArgumentException",
        "int signer(int,int) throws IllegalArgumentException",
        "int stolen(int,int,int) throws IllegalArgumentException",
        "int times(int,int,int) throws IndexOutOfBoundsException,IllegalArgumentException",
        "int verdict(int,int,int) throws IndexOutOfBoundsException,IllegalArgumentException",
        "long digest()",
    };

    private final Check check = new Check();

    public static void main(String[] args) {
        FaceTest test = new FaceTest();
        test.showsTheFace();
        test.showsNothingElse();
        test.classesInsideAreHidden();
        test.noHiddenMethodBearsAPublicName();
        test.check.end();
    }

    private void showsTheFace() {
        check.topic("the face");
        Set<String> shown = new TreeSet<>();
        for (Method method : SignetRoom.class.getDeclaredMethods()) {
            if (Modifier.isPublic(method.getModifiers())) {
                shown.add(text(method));
                check.same(method + " is of an object", Modifier.isStatic(method.getModifiers()), false);
            }
        }
        check.sameText("the methods", shown.toString(), new TreeSet<>(Set.of(FACE)).toString());
        Constructor<?>[] constructors = SignetRoom.class.getDeclaredConstructors();
        check.same("constructors", constructors.length, 1);
        check.sameText("the constructor", constructors[0].toString(), "public SignetRoom()");
        check.sameText("the class", Modifier.toString(SignetRoom.class.getModifiers()), "public final");
    }

    private void showsNothingElse() {
        check.topic("what the class shows beside the face");
        for (Method method : SignetRoom.class.getDeclaredMethods()) {
            int modifiers = method.getModifiers();
            check.same(method.getName(), Modifier.isPublic(modifiers) || Modifier.isPrivate(modifiers), true);
        }
        hiddenFieldsOf(SignetRoom.class);
    }

    private void classesInsideAreHidden() {
        check.topic("the classes inside");
        for (Class<?> inside : SignetRoom.class.getDeclaredClasses()) {
            int modifiers = inside.getModifiers();
            boolean isHidden = !Modifier.isPublic(modifiers) && !Modifier.isProtected(modifiers);
            check.same(inside + " is hidden", isHidden, true);
            check.same(inside + " is static", Modifier.isStatic(modifiers), true);
            hiddenFieldsOf(inside);
        }
    }

    /** No state is kept but in objects: what is static is final. */
    private void hiddenFieldsOf(Class<?> type) {
        for (Field field : type.getDeclaredFields()) {
            int modifiers = field.getModifiers();
            check.same(field + " is private", Modifier.isPrivate(modifiers), true);
            check.same(field + " is no state", !Modifier.isStatic(modifiers) || Modifier.isFinal(modifiers), true);
        }
    }

    private void noHiddenMethodBearsAPublicName() {
        check.topic("the names of private methods");
        Set<String> names = new TreeSet<>();
        for (Method method : SignetRoom.class.getMethods()) {
            names.add(method.getName());
        }
        noHiddenNameIn(SignetRoom.class, names);
        for (Class<?> inside : SignetRoom.class.getDeclaredClasses()) {
            noHiddenNameIn(inside, names);
        }
    }

    private void noHiddenNameIn(Class<?> type, Set<String> names) {
        for (Method method : type.getDeclaredMethods()) {
            if (!Modifier.isPublic(method.getModifiers())) {
                check.same(method + " is named as a call", names.contains(method.getName()), false);
            }
        }
    }

    private static String text(Method method) {
        StringBuilder text = new StringBuilder();
        for (Class<?> type : method.getParameterTypes()) {
            text.append(text.length() == 0 ? "" : ",").append(type);
        }
        String call = method.getReturnType() + " " + method.getName() + "(" + text + ")";
        StringBuilder thrown = new StringBuilder();
        for (Class<?> type : method.getExceptionTypes()) {
            thrown.append(thrown.length() == 0 ? " throws " : ",").append(type.getSimpleName());
        }
        return call + thrown;
    }
}
