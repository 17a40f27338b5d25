import java.lang.reflect.Constructor;
import java.lang.reflect.Field;
import java.lang.reflect.Method;
import java.lang.reflect.Modifier;
import java.util.Set;
import java.util.TreeSet;

/** The public face, word for word, and no member beside it that is not private. */
public final class FaceTest {
    private static final String[] METHODS = {
        "int letter(int)", "int blank()", "int fault()", "int shop()",
        "int glove(int,int)", "int as(int,int)", "int wearer(int,int)",
        "int wear(int,int,int)", "int off(int)", "int hour()", "int book(int,int)", "int wish(int,int,int)",
        "int mood(int,int)", "int dress(int)", "int boxes(int)", "int odds(int,int,int,int)",
        "int see(int,int,int)", "int forget()", "int teas(int,int,int)",
        "int image()", "int restore()", "int count(int)", "long digest()"};

    public static void main(String[] args) throws Exception {
        Check.due("NONE", KidGloves.NONE, -1);
        Check.due("UNKNOWN", KidGloves.UNKNOWN, -101);
        Check.due("OUTSIDE", KidGloves.OUTSIDE, -102);
        Check.due("STATE", KidGloves.STATE, -103);
        Check.due("FULL", KidGloves.FULL, -104);

        int of = KidGloves.class.getModifiers();
        Check.that("the class is public and final", Modifier.isPublic(of) && Modifier.isFinal(of));

        Set<String> methods = new TreeSet<>();
        Set<String> publicNames = new TreeSet<>();
        for (Method method : KidGloves.class.getDeclaredMethods()) {
            if (Modifier.isPublic(method.getModifiers()) && !Modifier.isStatic(method.getModifiers())) {
                methods.add(told(method));
                publicNames.add(method.getName());
            }
        }
        Check.that("the public methods are " + methods, methods.equals(Set.of(METHODS)));

        for (Method method : KidGloves.class.getDeclaredMethods()) {
            boolean hidden = Modifier.isPrivate(method.getModifiers()) && !publicNames.contains(method.getName());
            Check.that(method + " is of the face, or private", methods.contains(told(method)) || hidden);
        }
        Set<String> fields = new TreeSet<>();
        for (Field field : KidGloves.class.getDeclaredFields()) {
            boolean hidden = Modifier.isPrivate(field.getModifiers());
            if (!hidden) {
                fields.add(field.getName());
            }
            Check.that(field + " is final, if static",
                !Modifier.isStatic(field.getModifiers()) || Modifier.isFinal(field.getModifiers()));
        }
        Check.that("the constants are " + fields, fields.equals(Set.of("NONE", "UNKNOWN", "OUTSIDE", "STATE", "FULL")));

        Constructor<?>[] constructors = KidGloves.class.getDeclaredConstructors();
        Check.due("constructors", constructors.length, 1);
        Check.that("it is public", Modifier.isPublic(constructors[0].getModifiers()));
        Check.due("its parameters", constructors[0].getParameterCount(), 0);
        Check.end("FaceTest");
    }

    private static String told(Method method) {
        StringBuilder text = new StringBuilder(method.getReturnType() + " " + method.getName() + "(");
        for (Class<?> parameter : method.getParameterTypes()) {
            text.append(text.charAt(text.length() - 1) == '(' ? "" : ",").append(parameter);
        }
        return text.append(")").toString();
    }
}
