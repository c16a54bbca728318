import java.lang.reflect.Constructor;
import java.lang.reflect.Field;
import java.lang.reflect.Method;
import java.lang.reflect.Modifier;
import java.util.Arrays;
import java.util.Set;
import java.util.TreeSet;

/** The public face: what the document lists, and no other member that is not private. */
public final class FaceTest {
    public static void main(String[] args) {
        Class<?> face = BootMaker.class;
        Check.due("public and final", face.getModifiers(), Modifier.PUBLIC | Modifier.FINAL);
        Check.due("no package", face.getPackageName().length(), 0);
        Set<String> seen = new TreeSet<>();
        Set<String> hidden = new TreeSet<>();
        for (Constructor<?> one : face.getDeclaredConstructors()) {
            note(one.getModifiers(), one.toString(), seen);
        }
        for (Method one : face.getDeclaredMethods()) {
            note(one.getModifiers(), one.toString(), seen);
            if (Modifier.isPrivate(one.getModifiers())) {
                hidden.add(one.getName());
            }
        }
        for (Field one : face.getDeclaredFields()) {
            note(one.getModifiers(), one.toString(), seen);
        }
        Set<String> want = new TreeSet<>(Arrays.asList(
            "public BootMaker(int)",
            "public int BootMaker.partition(int,int)",
            "public int BootMaker.where(int,int)",
            "public int BootMaker.file(long,int,int,boolean)",
            "public boolean BootMaker.address(int)",
            "public int BootMaker.write()",
            "public int BootMaker.byteAt(int)",
            "public int BootMaker.poke(int,int)",
            "public int BootMaker.sum(int,int)",
            "public int BootMaker.boot(int) throws java.lang.IllegalArgumentException",
            "public int BootMaker.booted(int)",
            "public int BootMaker.memory(int) throws java.util.NoSuchElementException",
            "public static final int BootMaker.NONE",
            "public static final int BootMaker.WRONG",
            "public static final int BootMaker.FULL",
            "public static final int BootMaker.NAMED"));
        for (String one : want) {
            Check.due("there is " + one, seen.contains(one), true);
        }
        for (String one : seen) {
            Check.due("asked for is " + one, want.contains(one), true);
        }
        for (Method one : face.getDeclaredMethods()) {
            if (Modifier.isPublic(one.getModifiers())) {
                Check.due("a private method named " + one.getName(), hidden.contains(one.getName()), false);
            }
        }
        Check.finish();
    }

    private static void note(int modifiers, String text, Set<String> seen) {
        if (!Modifier.isPrivate(modifiers)) {
            seen.add(text);
        }
    }
}
