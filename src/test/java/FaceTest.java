import java.lang.reflect.Constructor;
import java.lang.reflect.Field;
import java.lang.reflect.InvocationTargetException;
import java.lang.reflect.Method;
import java.lang.reflect.Modifier;
import java.util.Arrays;
import java.util.TreeSet;

/** The class has the document's face, with the exceptions that it names, and nothing beside it. */
public final class FaceTest {
    private static final String[] FACE = {
        "public WeighOff(int)",
        "public static final int WeighOff.NONE",
        "public void WeighOff.open(int) throws java.lang.IllegalArgumentException",
        "public int WeighOff.weigh(int,int) throws java.lang.IllegalArgumentException,java.lang.IllegalStateException",
        "public void WeighOff.crack(int,int) throws java.lang.IllegalArgumentException,java.lang.IllegalStateException",
        "public void WeighOff.pass() throws java.lang.IllegalStateException",
        "public void WeighOff.leave(int) throws java.lang.IllegalArgumentException,java.lang.IllegalStateException",
        "public int WeighOff.appeal(int,int) throws java.lang.IllegalArgumentException,java.lang.IllegalStateException",
        "public boolean WeighOff.level(boolean)",
        "public void WeighOff.record(int) throws java.lang.IllegalArgumentException",
        "public void WeighOff.prize(int) throws java.lang.IllegalArgumentException",
        "public int WeighOff.turn()",
        "public int WeighOff.day()",
        "public int WeighOff.weight(int,int) throws java.lang.IllegalArgumentException",
        "public int WeighOff.tilt(int,int) throws java.lang.IllegalArgumentException",
        "public int WeighOff.best(int) throws java.lang.IllegalArgumentException",
        "public int WeighOff.place(int) throws java.lang.IllegalArgumentException",
        "public boolean WeighOff.wins(int) throws java.lang.IllegalArgumentException",
        "public int WeighOff.count(int,int,int) throws java.lang.IllegalArgumentException",
        "public int WeighOff.first(int,int,int) throws java.lang.IllegalArgumentException",
        "public int WeighOff.lamps(int,int,int) throws java.lang.IllegalArgumentException",
        "public int WeighOff.stands(int,int,int) throws java.lang.IllegalArgumentException",
        "public int WeighOff.lean(int,boolean) throws java.lang.IllegalArgumentException",
        "public int WeighOff.look(int) throws java.lang.IllegalArgumentException",
    };

    private static final Object[] NUMBERS = {Integer.MIN_VALUE, -1000001, -1000000, -100, -99, -1, 0,
        1, 2, 3, 5, 6, 7, 12, 13, 99, 100, 1000, 9999, 10000, Integer.MAX_VALUE};

    public static void main(String[] args) {
        TreeSet<String> seen = new TreeSet<>();
        TreeSet<String> publicNames = new TreeSet<>();
        for (Constructor<?> made : WeighOff.class.getDeclaredConstructors()) {
            seen.add(made.toGenericString());
        }
        for (Field field : WeighOff.class.getDeclaredFields()) {
            if (!Modifier.isPrivate(field.getModifiers())) {
                seen.add(field.toGenericString());
            }
        }
        for (Method method : WeighOff.class.getDeclaredMethods()) {
            if (!Modifier.isPrivate(method.getModifiers())) {
                seen.add(method.toGenericString());
                publicNames.add(method.getName());
            }
        }
        Check.same("the face", new TreeSet<>(Arrays.asList(FACE)).toString(), seen.toString());
        Check.holds("the class is public and final", true,
                Modifier.isPublic(WeighOff.class.getModifiers())
                        && Modifier.isFinal(WeighOff.class.getModifiers()));
        noPrivateNamesake(publicNames);
        Check.due("NONE", -1000000, () -> WeighOff.NONE);
        classesInsideAreHidden();
        throwsOnlyWhatIsNamed();
        Check.end();
    }

    private static void classesInsideAreHidden() {
        for (Class<?> inside : WeighOff.class.getDeclaredClasses()) {
            int is = inside.getModifiers();
            Check.holds(inside.getName() + " is static and neither public nor protected", true,
                    Modifier.isStatic(is) && !Modifier.isPublic(is) && !Modifier.isProtected(is));
        }
    }

    /** Every call with every choice of far and near numbers, each on an object of its own. */
    private static void throwsOnlyWhatIsNamed() {
        Refused.Made[] states = {() -> new WeighOff(3), Runs::middle, Runs::over,
            Runs::overBehindDaySix, Runs::overForAllLeft};
        for (Method method : WeighOff.class.getDeclaredMethods()) {
            if (Modifier.isPublic(method.getModifiers())) {
                for (Refused.Made made : states) {
                    tryAll(method, made, new Object[method.getParameterCount()], 0);
                }
            }
        }
    }

    private static void tryAll(Method method, Refused.Made made, Object[] with, int nth) {
        if (nth == with.length) {
            String thrown = thrownBy(method, made.object(), with);
            String named = Arrays.toString(method.getExceptionTypes());
            Check.holds(method + " with " + Arrays.toString(with) + " throws " + thrown, true,
                    thrown.equals("nothing") || named.contains(thrown));
            return;
        }
        boolean isNumber = method.getParameterTypes()[nth] == int.class;
        for (Object each : isNumber ? NUMBERS : new Object[] {false, true}) {
            with[nth] = each;
            tryAll(method, made, with, nth + 1);
        }
    }

    private static String thrownBy(Method method, WeighOff x, Object[] with) {
        try {
            method.invoke(x, with);
            return "nothing";
        } catch (InvocationTargetException e) {
            return e.getCause().getClass().getName();
        } catch (IllegalAccessException e) {
            return e.toString();
        }
    }

    private static void noPrivateNamesake(TreeSet<String> publicNames) {
        for (Method method : WeighOff.class.getDeclaredMethods()) {
            if (Modifier.isPrivate(method.getModifiers())) {
                Check.holds("a public method is named " + method.getName(), false,
                        publicNames.contains(method.getName()));
            }
        }
    }
}
