import java.lang.reflect.Constructor;
import java.lang.reflect.Field;
import java.lang.reflect.Method;
import java.lang.reflect.Modifier;
import java.util.TreeSet;

/** The public face, its constants and nothing beside them; a new object (promise 1). */
public final class FaceTest {
    private static final String[] FACE = {
        "int bank(int,int,int,int)", "int ofShade(int,int)", "int law(int)", "int loan(int,int,int)", "int undo(int)",
        "int over(int)", "int overBy(int)", "int rower(int)", "int sits(int)", "int waits(int)", "int allWait()",
        "int crossings(int,int,int,int)", "int least()", "int laws(int)",
        "int gain(int)", "int favours(int)", "int reading(int,int,boolean)", "int back(int)", "int payers(int)", "int rules()",
        "int sheet(int,int,int)", "int lose(int)", "int put(int,int,int)", "long cell(int,int,int)",
        "int copy(int,int,int,int,int)", "int tell(int)", "int hail(int)", "int as(int,int)", "int trace()", "int fault()", "int many(int)",
    };

    public static void main(String[] args) {
        members();
        constants();
        newObject();
        Check.end();
    }

    private static void members() {
        TreeSet<String> due = new TreeSet<>();
        TreeSet<String> names = new TreeSet<>();
        for (String method : FACE) {
            due.add(method);
            names.add(method.substring(method.indexOf(' ') + 1, method.indexOf('(')));
        }
        TreeSet<String> found = new TreeSet<>();
        for (Method m : RowBack.class.getDeclaredMethods()) {
            if (Modifier.isPrivate(m.getModifiers())) {
                Check.due("a private method named " + m.getName(), names.contains(m.getName()) ? 1 : 0, 0);
            } else {
                Check.due(m + " is public and of an object", m.getModifiers(), Modifier.PUBLIC);
                found.add(told(m));
            }
        }
        Check.due("the methods " + found + " are " + due, found.equals(due) ? 1 : 0, 1);
        Check.due("the class is public and final", RowBack.class.getModifiers(), Modifier.PUBLIC | Modifier.FINAL);
        Constructor<?>[] made = RowBack.class.getDeclaredConstructors();
        Check.due("how many constructors", made.length, 1);
        Check.due("the constructor is public", made[0].getModifiers(), Modifier.PUBLIC);
        Check.due("the constructor takes nothing", made[0].getParameterCount(), 0);
        for (Class<?> inside : RowBack.class.getDeclaredClasses()) {
            Check.due(inside + " is static", inside.getModifiers() & Modifier.STATIC, Modifier.STATIC);
            Check.due(inside + " is not public", inside.getModifiers() & (Modifier.PUBLIC | Modifier.PROTECTED), 0);
            for (Method m : inside.getDeclaredMethods()) {
                Check.due("a method inside named " + m.getName(), names.contains(m.getName()) ? 1 : 0, 0);
            }
        }
    }

    private static String told(Method m) {
        StringBuilder text = new StringBuilder(m.getReturnType() + " " + m.getName() + "(");
        for (int i = 0; i < m.getParameterCount(); i++) {
            text.append(i == 0 ? "" : ",").append(m.getParameterTypes()[i]);
        }
        return text.append(")").toString();
    }

    private static void constants() {
        Check.due("UNKNOWN", RowBack.UNKNOWN, -1);
        Check.due("OUTSIDE", RowBack.OUTSIDE, -2);
        Check.due("STATE", RowBack.STATE, -3);
        Check.due("FULL", RowBack.FULL, -4);
        Check.due("NONE", RowBack.NONE, -9);
        Check.due("LOST", RowBack.LOST, Long.MIN_VALUE);
        int open = 0;
        for (Field f : RowBack.class.getDeclaredFields()) {
            if (Modifier.isStatic(f.getModifiers())) Check.due(f + " is final", f.getModifiers() & Modifier.FINAL, Modifier.FINAL);
            if (!Modifier.isPrivate(f.getModifiers())) {
                open++;
                Check.due(f + " is a public constant", f.getModifiers(), Modifier.PUBLIC | Modifier.STATIC | Modifier.FINAL);
            }
        }
        Check.due("how many public constants", open, 6);
    }

    private static void newObject() {
        RowBack x = new RowBack();
        for (int what = 0; what <= 6; what++) {
            Check.due("many of a new object", x.many(what), 0);
        }
        Check.due("fault of a new object", x.fault(), 0);
        Check.due("trace of a new object", x.trace(), 0);
        Check.due("over(0) of a new object", x.over(0), -1);
        Check.due("allWait of a new object", x.allWait(), -3);
        for (int k = 0; k < 4; k++) {
            Check.due("lose of a new object", x.lose(k), 0);
        }
        Check.due("two objects share nothing", Check.of("r1991;s1100").many(0) + x.many(0), 1);
    }
}
