import java.lang.reflect.Constructor;
import java.lang.reflect.Field;
import java.lang.reflect.Method;
import java.lang.reflect.Modifier;
import java.util.TreeSet;

/** The class has the document's face, and no other member that can be seen from outside. */
public final class FaceTest {
    private FaceTest() {
    }

    public static void main(String[] args) {
        TreeSet<String> due = new TreeSet<>();
        for (String member : new String[] {
            "NONE", "CheapParse()", "type(long,int)", "fill(int,int)", "clear()",
            "limits(int,int,int)", "price(int,int,int)", "parse(int)", "step(int,int)",
            "told(int)", "at(int,int)", "write()", "written(int)", "load(long,int)", "read()",
            "taken(int)", "check()"}) {
            due.add(member);
        }
        TreeSet<String> found = new TreeSet<>();
        Class<?> c = CheapParse.class;
        for (Field f : c.getDeclaredFields()) {
            if (!Modifier.isPrivate(f.getModifiers())) {
                found.add(f.getName());
            }
        }
        for (Constructor<?> k : c.getDeclaredConstructors()) {
            if (!Modifier.isPrivate(k.getModifiers())) {
                found.add("CheapParse" + parameters(k.getParameterTypes()));
            }
        }
        for (Method m : c.getDeclaredMethods()) {
            if (!Modifier.isPrivate(m.getModifiers())) {
                found.add(m.getName() + parameters(m.getParameterTypes()));
                Due.due(m.getName() + " answers int", m.getReturnType() == int.class ? 1 : 0, 1);
                Due.due(m.getName() + " is public", m.getModifiers(), Modifier.PUBLIC);
            }
        }
        if (!found.equals(due)) {
            System.out.println("the face is " + found + ", due is " + due);
        }
        Due.due("the face", found.equals(due) ? 1 : 0, 1);
        Due.due("public and final", c.getModifiers(), Modifier.PUBLIC | Modifier.FINAL);
        Due.due("NONE", CheapParse.NONE, -1);
        for (Class<?> inside : c.getDeclaredClasses()) {
            Due.due(inside.getName() + " is static",
                Modifier.isStatic(inside.getModifiers()) ? 1 : 0, 1);
        }
        Due.end();
    }

    private static String parameters(Class<?>[] types) {
        StringBuilder text = new StringBuilder("(");
        for (int k = 0; k < types.length; k++) {
            text.append(k == 0 ? "" : ",").append(types[k].getName());
        }
        return text.append(")").toString();
    }
}
