import java.lang.reflect.Constructor;
import java.lang.reflect.Field;
import java.lang.reflect.Method;
import java.lang.reflect.Modifier;
import java.util.Arrays;
import java.util.Set;
import java.util.TreeSet;
import java.util.stream.Collectors;

/** The public face: every signature with its exceptions, and nothing besides. */
public final class FaceTest {
    private static final String IOOBE = "IndexOutOfBoundsException";
    private static final String IAE = "IllegalArgumentException";
    private static final String ISE = "IllegalStateException";
    private static final String NSEE = "NoSuchElementException";
    private static final String UOE = "UnsupportedOperationException";
    private static final String AE = "ArithmeticException";

    private static final String[] DUE = {
        face("int addParcel(int)", UOE),
        face("int register(int,int,int)", UOE),
        face("int registerEqual(int,int,int,int)", UOE),
        face("int postpone(int,int,int)", UOE),
        face("int release(int,int)", UOE),
        face("int cancel(int)", UOE),
        face("int pay(int,int)", UOE),
        face("int split(int,int)", UOE),
        face("int unite(int,int)", UOE),
        face("int join(int,int)", UOE),
        face("int auction(int,int,int)", UOE),
        face("int append(int)", IAE, ISE),
        face("int run()", IAE, UOE),
        face("int faultPosition()"),
        face("int refusal()", NSEE),
        face("int parcel(int,int)", IOOBE, IAE),
        face("int slot(int,int,int)", IOOBE, NSEE, IAE),
        face("int mortgage(int,int)", IOOBE, IAE),
        face("int rank(int,int,boolean)", IOOBE, NSEE),
        face("boolean isAhead(int,int,int)", IOOBE, NSEE),
        face("int proceeds(int,int,int,int)", IOOBE, IAE),
        face("int surePrice(int,int,int)", IOOBE, IAE, NSEE),
        face("int heaviest(int)", IOOBE, NSEE),
        face("float cover(int,int)", IOOBE, NSEE),
        face("int coverBits(int,int)", IOOBE, NSEE),
        face("double load()", AE),
        face("long loadBits()", AE),
        face("int claims(int,int)", IAE),
        face("long account(int)", IAE),
        face("int newDrawer(int,int,int)", IOOBE, IAE),
        face("int file(int,int,int,int)", IOOBE, IAE, NSEE, ISE),
        face("int filed(int,int,boolean)", IOOBE, NSEE),
        face("int copyDrawer(int,int)", IOOBE, ISE),
        face("int count(int)", IAE),
        face("int undo()", ISE),
        face("int save()"),
        face("int restore()", ISE),
    };

    private FaceTest() {
    }

    public static void main(String[] args) {
        Check check = new Check("FaceTest");
        Class<?> type = MortgageRegister.class;
        check.isTrue("the class is public", Modifier.isPublic(type.getModifiers()));
        check.isTrue("the class is final", Modifier.isFinal(type.getModifiers()));

        Set<String> got = new TreeSet<>();
        Set<String> names = new TreeSet<>();
        Set<String> hidden = new TreeSet<>();
        for (Method method : type.getDeclaredMethods()) {
            if (Modifier.isPrivate(method.getModifiers())) {
                hidden.add(method.getName());
            } else {
                got.add(faceOf(method));
                names.add(method.getName());
            }
        }
        check.due("the methods", String.join("\n", got), String.join("\n", new TreeSet<>(Arrays.asList(DUE))));

        for (Class<?> inside : type.getDeclaredClasses()) {
            check.isFalse(inside.getName() + " is public", Modifier.isPublic(inside.getModifiers()));
            check.isFalse(inside.getName() + " is protected", Modifier.isProtected(inside.getModifiers()));
            check.isTrue(inside.getName() + " is static", Modifier.isStatic(inside.getModifiers()));
            for (Method method : inside.getDeclaredMethods()) {
                hidden.add(method.getName());
            }
            for (Field field : inside.getDeclaredFields()) {
                int modifiers = field.getModifiers();
                boolean isFixed = Modifier.isFinal(modifiers) || !Modifier.isStatic(modifiers);
                check.isTrue("no static state: " + inside.getName() + '.' + field.getName(), isFixed);
            }
        }
        hidden.retainAll(names);
        check.due("hidden methods with a public name", hidden.toString(), "[]");

        for (Field field : type.getDeclaredFields()) {
            int modifiers = field.getModifiers();
            check.isTrue("the field " + field.getName() + " is private", Modifier.isPrivate(modifiers));
            boolean isFixed = Modifier.isFinal(modifiers) || !Modifier.isStatic(modifiers);
            check.isTrue("no static state: " + field.getName(), isFixed);
        }
        Constructor<?>[] constructors = type.getDeclaredConstructors();
        check.due("the number of constructors", constructors.length, 1);
        check.isTrue("the constructor is public", Modifier.isPublic(constructors[0].getModifiers()));
        check.due("its parameters", constructors[0].getParameterCount(), 0);
        check.end();
    }

    private static String face(String signature, String... exceptions) {
        return signature + " throws " + Arrays.asList(exceptions);
    }

    private static String faceOf(Method method) {
        String parameters = Arrays.stream(method.getParameterTypes()).map(Class::getSimpleName)
            .collect(Collectors.joining(","));
        String[] exceptions = Arrays.stream(method.getExceptionTypes()).map(Class::getSimpleName)
            .toArray(String[]::new);
        String result = method.getReturnType().getSimpleName();
        return face(result + ' ' + method.getName() + '(' + parameters + ')', exceptions);
    }
}
