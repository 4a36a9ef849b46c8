import java.lang.reflect.Constructor;
import java.lang.reflect.Field;
import java.lang.reflect.Method;
import java.lang.reflect.Modifier;
import java.util.Arrays;
import java.util.HashSet;
import java.util.Set;
import java.util.TreeSet;

/** The class has the members of the document's face, and none beside them that is not private. */
public final class StageWalkerFace {
    private static final Set<String> FACE = new TreeSet<>(Arrays.asList(
        "public static final int BAD",
        "public StageWalker()",
        "public void begin()",
        "public int poke(int,int,int,int,int,int)",
        "public int word(int)",
        "public void roots(int,int,int)",
        "public int rights(int)",
        "public int translate(int,int,int)",
        "public int place()",
        "public int second()",
        "public boolean entry()",
        "public int pages(int,int,int,int)"));

    private static Set<String> visible(Set<String> publicNames) {
        Set<String> found = new TreeSet<>();
        for (Field f : StageWalker.class.getDeclaredFields()) {
            if (!Modifier.isPrivate(f.getModifiers())) {
                found.add(f.toString().replace("StageWalker.", ""));
            }
        }
        for (Constructor<?> c : StageWalker.class.getDeclaredConstructors()) {
            found.add(c.toString());
        }
        for (Method m : StageWalker.class.getDeclaredMethods()) {
            if (!Modifier.isPrivate(m.getModifiers())) {
                found.add(m.toString().replace("StageWalker.", ""));
                publicNames.add(m.getName());
            }
        }
        return found;
    }

    private static int wrong(String what, boolean good) {
        if (!good) {
            System.out.println(what);
        }
        return good ? 0 : 1;
    }

    public static void main(String[] args) {
        Set<String> publicNames = new HashSet<>();
        Set<String> found = visible(publicNames);
        int wrong = wrong("the face is " + found + ", due is " + FACE, found.equals(FACE));
        int modifiers = StageWalker.class.getModifiers();
        wrong += wrong("the class is not public and final",
            Modifier.isPublic(modifiers) && Modifier.isFinal(modifiers));
        wrong += wrong("BAD is " + StageWalker.BAD, StageWalker.BAD == -1);
        for (Method m : StageWalker.class.getDeclaredMethods()) {
            boolean hidden = Modifier.isPrivate(m.getModifiers());
            wrong += wrong("private method with a public name: " + m, !hidden || !publicNames.contains(m.getName()));
        }
        for (Field f : StageWalker.class.getDeclaredFields()) {
            int bits = f.getModifiers();
            wrong += wrong("static field that is not final: " + f, !Modifier.isStatic(bits) || Modifier.isFinal(bits));
        }
        System.out.println(wrong == 0 ? "the face is as due" : wrong + " things are not as due");
        if (wrong != 0) {
            System.exit(1);
        }
    }
}
