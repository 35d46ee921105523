import java.lang.reflect.Constructor;
import java.lang.reflect.Field;
import java.lang.reflect.Method;
import java.lang.reflect.Modifier;
import java.util.ArrayList;
import java.util.List;
import java.util.TreeSet;

/** The public face: the document's members, and no others. */
public final class FaceTest {
    public static void main(String[] args) {
        TreeSet<String> seen = new TreeSet<>();
        for (Constructor<?> c : MailLines.class.getDeclaredConstructors()) {
            seen.add(c.toString());
        }
        for (Method m : MailLines.class.getDeclaredMethods()) {
            if (!Modifier.isPrivate(m.getModifiers())) {
                seen.add(m.toString());
            }
        }
        for (Field f : MailLines.class.getDeclaredFields()) {
            if (!Modifier.isPrivate(f.getModifiers())) {
                seen.add(f.toString());
            }
        }
        TreeSet<String> due = new TreeSet<>();
        due.add("public MailLines()");
        due.add("public boolean MailLines.send(long,int)");
        due.add("public long MailLines.reply()");
        due.add("public boolean MailLines.open()");
        due.add("public int MailLines.message(int,int)");
        due.add("public long MailLines.bytes(int,int,int)");
        due.add("public int MailLines.count(int)");
        Talk.due("members", seen, due);
        Talk.due("public final class", Modifier.toString(MailLines.class.getModifiers()), "public final");
        Talk.due("above it", MailLines.class.getSuperclass(), Object.class);
        Talk.due("interfaces", MailLines.class.getInterfaces().length, 0);
        namesOnce();
        classesInside();
        Talk.finish();
    }

    /** No private method bears the name of a public one (LANGUAGE.md, rule 1). */
    private static void namesOnce() {
        List<String> open = new ArrayList<>();
        for (Method m : MailLines.class.getDeclaredMethods()) {
            if (Modifier.isPublic(m.getModifiers())) {
                open.add(m.getName());
            }
        }
        for (Method m : MailLines.class.getDeclaredMethods()) {
            Talk.due("private " + m.getName() + " like a public one",
                Modifier.isPrivate(m.getModifiers()) && open.contains(m.getName()), false);
        }
    }

    /** Classes inside are static, and private or package-visible. */
    private static void classesInside() {
        for (Class<?> inside : MailLines.class.getDeclaredClasses()) {
            int how = inside.getModifiers();
            Talk.due(inside + " is static", Modifier.isStatic(how), true);
            Talk.due(inside + " is seen outside", Modifier.isPublic(how) || Modifier.isProtected(how), false);
        }
    }
}
