import java.lang.reflect.Constructor;
import java.lang.reflect.Field;
import java.lang.reflect.Method;
import java.lang.reflect.Modifier;
import java.util.Set;
import java.util.TreeSet;

/** The class shows the document's face, and nothing else. */
public final class FaceTest {
    private static final String[] FACE = {
        "boolean backs(int,int)",
        "boolean isOf(int,int,int,int)",
        "boolean isUnder(int,int)",
        "boolean strict(boolean)",
        "double meanChain(int,int)",
        "int anchor(int,boolean)",
        "int call(int,int)",
        "int chain(int,int,int,int)",
        "int chains(int)",
        "int flawAt(int,int,int)",
        "int good(int,int,int)",
        "int holdsTo(int,int,int)",
        "int letter(int,int,int,int)",
        "int list(int,int,int)",
        "int many(int)",
        "int master(int,boolean,int)",
        "int ofLetter(int,int)",
        "int ofList(int,int)",
        "int otherwise(int,int,int)",
        "int sign(int,int)",
        "int signList(int,int)",
        "int signed(int,int)",
        "int signer(int,int)",
        "int stolen(int,int,int)",
        "int times(int,int,int)",
        "int verdict(int,int,int)",
        "long digest()",
    };

    public static void main(String[] args) {
        Check check = new Check();
        check.topic("the face");
        Set<String> shown = new TreeSet<>();
        for (Method method : SignetRoom.class.getDeclaredMethods()) {
            if (!Modifier.isPrivate(method.getModifiers())) {
                shown.add(text(method));
            }
        }
        for (Field field : SignetRoom.class.getDeclaredFields()) {
            check.same(field.getName() + " is private", Modifier.isPrivate(field.getModifiers()), true);
        }
        check.sameText("the methods", shown.toString(), new TreeSet<>(Set.of(FACE)).toString());
        Constructor<?>[] constructors = SignetRoom.class.getDeclaredConstructors();
        check.same("constructors", constructors.length, 1);
        check.sameText("the constructor", constructors[0].toString(), "public SignetRoom()");
        check.sameText("the class", Modifier.toString(SignetRoom.class.getModifiers()), "public final");
        check.end();
    }

    private static String text(Method method) {
        StringBuilder text = new StringBuilder();
        for (Class<?> type : method.getParameterTypes()) {
            text.append(text.length() == 0 ? "" : ",").append(type);
        }
        return method.getReturnType() + " " + method.getName() + "(" + text + ")";
    }
}
