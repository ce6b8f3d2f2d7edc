import java.lang.reflect.Constructor;
import java.lang.reflect.Field;
import java.lang.reflect.Method;
import java.lang.reflect.Modifier;
import java.util.TreeSet;

/** The class shows the document's face and nothing else. */
public final class FaceTest {
    public static void main(String[] args) {
        String[] face = {
            "public void feed(int,int,int,int,int)", "public int end(int)", "public int read()",
            "public int fault(int)", "public int atom(int,int)", "public int atomByte(int,int)",
            "public int range(int,int)", "public int tree(int)", "public int print()", "public int printed(int)",
            "public int normal()", "public long row(int,boolean)", "public boolean ask(long)", "public int ways()",
            "public static final int NONE", "public MailQueries()"
        };
        TreeSet<String> wanted = new TreeSet<>(java.util.Arrays.asList(face));
        TreeSet<String> seen = new TreeSet<>();
        for (Method m : MailQueries.class.getDeclaredMethods()) {
            if (!Modifier.isPrivate(m.getModifiers())) {
                seen.add(Modifier.toString(m.getModifiers()) + " " + m.getReturnType() + " " + m.getName()
                        + parameters(m.getParameterTypes()));
            }
        }
        for (Field f : MailQueries.class.getDeclaredFields()) {
            if (!Modifier.isPrivate(f.getModifiers())) {
                seen.add(Modifier.toString(f.getModifiers()) + " " + f.getType() + " " + f.getName());
            }
        }
        for (Constructor<?> c : MailQueries.class.getDeclaredConstructors()) {
            seen.add(Modifier.toString(c.getModifiers()) + " " + c.getName() + parameters(c.getParameterTypes()));
        }
        Calls.due("the face", seen.toString(), wanted.toString());
        Calls.due("the class", Modifier.toString(MailQueries.class.getModifiers()), "public final");
        Calls.due("NONE", MailQueries.NONE, -1);
        Calls.finish();
    }

    private static String parameters(Class<?>[] types) {
        StringBuilder all = new StringBuilder("(");
        for (int i = 0; i < types.length; i++) {
            all.append(i > 0 ? "," : "").append(types[i].getName());
        }
        return all.append(")").toString();
    }
}
