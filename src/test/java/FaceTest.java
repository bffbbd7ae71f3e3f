import java.lang.reflect.Constructor;
import java.lang.reflect.Field;
import java.lang.reflect.Method;
import java.lang.reflect.Modifier;
import java.util.Arrays;
import java.util.TreeSet;

/** The class has the document's face, with the exceptions that it names, and nothing beside it. */
public final class FaceTest {
    private static final String[] FACE = {
        "public WeighOff(int)",
        "public static final int WeighOff.NONE",
        "public void WeighOff.open(int) throws java.lang.IllegalArgumentException",
        "public int WeighOff.weigh(int,int) throws java.lang.IllegalArgumentException,java.lang.IllegalStateException",
        "public void WeighOff.crack(int,int) throws java.lang.IllegalArgumentException,java.lang.IllegalStateException",
        "public void WeighOff.pass() throws java.lang.IllegalStateException",
        "public void WeighOff.leave(int) throws java.lang.IllegalArgumentException,java.lang.IllegalStateException",
        "public int WeighOff.appeal(int,int) throws java.lang.IllegalArgumentException,java.lang.IllegalStateException",
        "public boolean WeighOff.level(boolean)",
        "public void WeighOff.record(int) throws java.lang.IllegalArgumentException",
        "public void WeighOff.prize(int) throws java.lang.IllegalArgumentException",
        "public int WeighOff.turn()",
        "public int WeighOff.day()",
        "public int WeighOff.weight(int,int) throws java.lang.IllegalArgumentException",
        "public int WeighOff.tilt(int,int) throws java.lang.IllegalArgumentException",
        "public int WeighOff.best(int) throws java.lang.IllegalArgumentException",
        "public int WeighOff.place(int) throws java.lang.IllegalArgumentException",
        "public boolean WeighOff.wins(int) throws java.lang.IllegalArgumentException",
        "public int WeighOff.count(int,int,int) throws java.lang.IllegalArgumentException",
        "public int WeighOff.first(int,int,int) throws java.lang.IllegalArgumentException",
        "public int WeighOff.lamps(int,int,int) throws java.lang.IllegalArgumentException",
        "public int WeighOff.stands(int,int,int) throws java.lang.IllegalArgumentException",
        "public int WeighOff.lean(int,boolean) throws java.lang.IllegalArgumentException",
        "public int WeighOff.look(int) throws java.lang.IllegalArgumentException",
    };

    public static void main(String[] args) {
        TreeSet<String> seen = new TreeSet<>();
        TreeSet<String> publicNames = new TreeSet<>();
        for (Constructor<?> made : WeighOff.class.getDeclaredConstructors()) {
            seen.add(made.toGenericString());
        }
        for (Field field : WeighOff.class.getDeclaredFields()) {
            if (!Modifier.isPrivate(field.getModifiers())) {
                seen.add(field.toGenericString());
            }
        }
        for (Method method : WeighOff.class.getDeclaredMethods()) {
            if (!Modifier.isPrivate(method.getModifiers())) {
                seen.add(method.toGenericString());
                publicNames.add(method.getName());
            }
        }
        Check.same("the face", new TreeSet<>(Arrays.asList(FACE)).toString(), seen.toString());
        Check.holds("the class is public and final", true,
                Modifier.isPublic(WeighOff.class.getModifiers())
                        && Modifier.isFinal(WeighOff.class.getModifiers()));
        noPrivateNamesake(publicNames);
        Check.due("NONE", -1000000, () -> WeighOff.NONE);
        Check.end();
    }

    private static void noPrivateNamesake(TreeSet<String> publicNames) {
        for (Method method : WeighOff.class.getDeclaredMethods()) {
            if (Modifier.isPrivate(method.getModifiers())) {
                Check.holds("a public method is named " + method.getName(), false,
                        publicNames.contains(method.getName()));
            }
        }
    }
}
