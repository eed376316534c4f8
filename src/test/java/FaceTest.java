import java.lang.reflect.Constructor;
import java.lang.reflect.Field;
import java.lang.reflect.Method;
import java.lang.reflect.Modifier;
import java.util.TreeSet;

/** The public face is the document's, and nothing else can be seen from outside. */
public final class FaceTest {
    private static final String[] METHODS = {
        "int type(int)", "int wipe()", "int width(int,int)",
        "int parameter(int,int)", "int define(int)", "int pattern()", "int paragraph()",
        "long cost()", "int line(int,int)", "int character(int,int)", "int place(int,int)",
        "int count(int)",
    };

    public static void main(String[] args) throws ReflectiveOperationException {
        Checker check = new Checker("FaceTest");
        Class<?> face = ParagraphSetter.class;
        check.that("the class is public and final",
            Modifier.isPublic(face.getModifiers()) && Modifier.isFinal(face.getModifiers()));
        methods(check, face);
        constants(check, face);
        Constructor<?>[] made = face.getDeclaredConstructors();
        check.due("constructors", made.length, 1);
        check.that("the constructor is public, without parameters",
            Modifier.isPublic(made[0].getModifiers()) && made[0].getParameterCount() == 0);
        check.finish();
    }

    private static void methods(Checker check, Class<?> face) {
        TreeSet<String> want = new TreeSet<>();
        TreeSet<String> publicNames = new TreeSet<>();
        for (String method : METHODS) {
            want.add(method);
            publicNames.add(method.substring(method.indexOf(' ') + 1, method.indexOf('(')));
        }
        TreeSet<String> got = new TreeSet<>();
        for (Method method : face.getDeclaredMethods()) {
            if (method.isSynthetic()) {
                continue;
            }
            if (Modifier.isPrivate(method.getModifiers())) {
                check.that(method.getName() + " is no name for a private method",
                    !publicNames.contains(method.getName()));
                continue;
            }
            check.that(method + " is public, not static",
                Modifier.isPublic(method.getModifiers()) && !Modifier.isStatic(method.getModifiers()));
            StringBuilder types = new StringBuilder();
            for (Class<?> type : method.getParameterTypes()) {
                types.append(types.length() == 0 ? "" : ",").append(type.getName());
            }
            got.add(method.getReturnType().getName() + " " + method.getName() + "(" + types + ")");
        }
        check.that("methods " + got + ", due are " + want, got.equals(want));
    }

    private static void constants(Checker check, Class<?> face) throws ReflectiveOperationException {
        String[] names = {"DONE", "REFUSED", "FULL", "SYNTAX", "BIG", "OVERFULL"};
        int visible = 0;
        for (Field field : face.getDeclaredFields()) {
            if (!Modifier.isPrivate(field.getModifiers()) && !field.isSynthetic()) {
                visible++;
            }
        }
        check.due("fields that can be seen", visible, names.length);
        for (int k = 0; k < names.length; k++) {
            Field field = face.getDeclaredField(names[k]);
            int modifiers = field.getModifiers();
            check.that(names[k] + " is public static final int", Modifier.isPublic(modifiers)
                && Modifier.isStatic(modifiers) && Modifier.isFinal(modifiers) && field.getType() == int.class);
            check.due(names[k], field.getInt(null), -k);
        }
    }
}
