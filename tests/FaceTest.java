import java.lang.reflect.Constructor;
import java.lang.reflect.Field;
import java.lang.reflect.Method;
import java.lang.reflect.Modifier;
import java.util.ArrayList;
import java.util.Arrays;
import java.util.Collections;
import java.util.List;

/** The public face, and rule 1 of LANGUAGE.md: nothing but it can be seen from outside. */
public final class FaceTest {
    private static final String[] FACE = {
        "int letter(int)", "int blank()", "int fault()", "int court()", "int about(int,int)", "int as(int,int)",
        "int butter(int,int)", "int loaf(int)", "int eat(int,boolean)", "long belief(int,int)", "int judged()",
        "long right(int,int)", "long driest(int,int)", "int hear(int,boolean,boolean)", "int forget()",
        "int buttered(int)", "int sessions(int,int,int,int)", "int image()", "int restore()", "int count(int)",
        "long digest()"
    };

    public static void main(String[] args) {
        Due.due("NONE", DryLoaf.NONE, -1);
        Due.due("UNKNOWN", DryLoaf.UNKNOWN, -101);
        Due.due("OUTSIDE", DryLoaf.OUTSIDE, -102);
        Due.due("STATE", DryLoaf.STATE, -103);
        Due.due("FULL", DryLoaf.FULL, -104);
        same("methods", publicMethods(), Arrays.asList(FACE));
        same("constants", publicFields(), Arrays.asList("NONE", "UNKNOWN", "OUTSIDE", "STATE", "FULL"));
        Constructor<?>[] made = DryLoaf.class.getDeclaredConstructors();
        Due.due("constructors", made.length, 1);
        Due.due("the constructor is public, without arguments",
            Modifier.isPublic(made[0].getModifiers()) && made[0].getParameterCount() == 0 ? 1 : 0, 1);
        Due.due("the class is public and final",
            DryLoaf.class.getModifiers() & (Modifier.PUBLIC | Modifier.FINAL), Modifier.PUBLIC | Modifier.FINAL);
        nestedClasses();
        Due.end("FaceTest");
    }

    private static List<String> publicMethods() {
        List<String> seen = new ArrayList<>();
        for (Method m : DryLoaf.class.getDeclaredMethods()) {
            if (!Modifier.isPrivate(m.getModifiers())) {
                List<String> types = new ArrayList<>();
                for (Class<?> type : m.getParameterTypes()) {
                    types.add(type.getName());
                }
                seen.add(m.getReturnType() + " " + m.getName() + "(" + String.join(",", types) + ")");
                Due.due(m.getName() + " is public", Modifier.isPublic(m.getModifiers()) ? 1 : 0, 1);
            } else {
                Due.due("a private method bears the public name " + m.getName(), isOfFace(m.getName()) ? 1 : 0, 0);
            }
        }
        return seen;
    }

    private static List<String> publicFields() {
        List<String> seen = new ArrayList<>();
        for (Field f : DryLoaf.class.getDeclaredFields()) {
            if (!Modifier.isPrivate(f.getModifiers())) {
                seen.add(f.getName());
            }
            if (Modifier.isStatic(f.getModifiers())) {
                Due.due("static " + f.getName() + " is final", Modifier.isFinal(f.getModifiers()) ? 1 : 0, 1);
            }
        }
        return seen;
    }

    private static void nestedClasses() {
        for (Class<?> inside : DryLoaf.class.getDeclaredClasses()) {
            int mods = inside.getModifiers();
            Due.due(inside.getName() + " is static", Modifier.isStatic(mods) ? 1 : 0, 1);
            Due.due(inside.getName() + " is hidden", mods & (Modifier.PUBLIC | Modifier.PROTECTED), 0);
            for (Method m : inside.getDeclaredMethods()) {
                Due.due(inside.getName() + " bears the public name " + m.getName(), isOfFace(m.getName()) ? 1 : 0, 0);
            }
        }
    }

    private static boolean isOfFace(String name) {
        for (String one : FACE) {
            if (one.contains(" " + name + "(")) {
                return true;
            }
        }
        return false;
    }

    private static void same(String what, List<String> got, List<String> want) {
        List<String> a = new ArrayList<>(got);
        List<String> b = new ArrayList<>(want);
        Collections.sort(a);
        Collections.sort(b);
        Due.due(what + " " + a + ", due are " + b, a.equals(b) ? 1 : 0, 1);
    }
}
