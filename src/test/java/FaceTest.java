import java.lang.reflect.Constructor;
import java.lang.reflect.Field;
import java.lang.reflect.Method;
import java.lang.reflect.Modifier;
import java.util.TreeSet;

/**
 * The class has the document's face, no other member that can be seen from outside, and the form
 * that LANGUAGE.md asks for, as far as it can be seen from here.
 */
public final class FaceTest {
    private FaceTest() {
    }

    public static void main(String[] args) {
        TreeSet<String> due = new TreeSet<>();
        for (String member : new String[] {
            "NONE", "CheapParse()", "type(long,int)", "fill(int,int)", "clear()",
            "limits(int,int,int)", "price(int,int,int)", "parse(int)", "step(int,int)",
            "told(int)", "at(int,int)", "write()", "written(int)", "load(long,int)", "read()",
            "taken(int)", "check()"}) {
            due.add(member);
        }
        TreeSet<String> found = new TreeSet<>();
        Class<?> c = CheapParse.class;
        for (Field f : c.getDeclaredFields()) {
            if (!Modifier.isPrivate(f.getModifiers())) {
                found.add(f.getName());
            }
        }
        for (Constructor<?> k : c.getDeclaredConstructors()) {
            if (!Modifier.isPrivate(k.getModifiers())) {
                found.add("CheapParse" + parameters(k.getParameterTypes()));
            }
        }
        for (Method m : c.getDeclaredMethods()) {
            if (!Modifier.isPrivate(m.getModifiers())) {
                found.add(m.getName() + parameters(m.getParameterTypes()));
                Due.due(m.getName() + " answers int", m.getReturnType() == int.class ? 1 : 0, 1);
                Due.due(m.getName() + " is public", m.getModifiers(), Modifier.PUBLIC);
            }
        }
        if (!found.equals(due)) {
            System.out.println("the face is " + found + ", due is " + due);
        }
        Due.due("the face", found.equals(due) ? 1 : 0, 1);
        Due.due("public and final", c.getModifiers(), Modifier.PUBLIC | Modifier.FINAL);
        Due.due("NONE", CheapParse.NONE, -1);
        TreeSet<String> publicNames = new TreeSet<>();
        for (String member : due) {
            publicNames.add(member.replaceAll("[(].*", ""));
        }
        Due.due("at most twelve classes", c.getDeclaredClasses().length < 12 ? 1 : 0, 1);
        keepsForm(c, publicNames);
        for (Class<?> inside : c.getDeclaredClasses()) {
            Due.due(inside.getName() + " is static",
                Modifier.isStatic(inside.getModifiers()) ? 1 : 0, 1);
            keepsForm(inside, publicNames);
        }
        Due.end();
    }

    private static void keepsForm(Class<?> c, TreeSet<String> publicNames) {
        int fields = 0;
        for (Field f : c.getDeclaredFields()) {
            boolean isStatic = Modifier.isStatic(f.getModifiers());
            fields += isStatic ? 0 : 1;
            Due.due(f.getName() + " is final if static",
                !isStatic || Modifier.isFinal(f.getModifiers()) ? 1 : 0, 1);
        }
        Due.due(c.getName() + " has at most twenty fields", fields <= 20 ? 1 : 0, 1);
        for (Method m : c.getDeclaredMethods()) {
            Due.due(m + " takes at most seven", m.getParameterCount() <= 7 ? 1 : 0, 1);
            boolean isPublic = Modifier.isPublic(m.getModifiers());
            Due.due(m + " has a name of its own",
                isPublic || !publicNames.contains(m.getName()) ? 1 : 0, 1);
        }
    }

    private static String parameters(Class<?>[] types) {
        StringBuilder text = new StringBuilder("(");
        for (int k = 0; k < types.length; k++) {
            text.append(k == 0 ? "" : ",").append(types[k].getName());
        }
        return text.append(")").toString();
    }
}
