import java.lang.reflect.Constructor;
import java.lang.reflect.Field;
import java.lang.reflect.Member;
import java.lang.reflect.Method;
import java.lang.reflect.Modifier;
import java.util.TreeSet;

/** The public face: what the document names, and nothing else. */
public final class FaceTest {
    private static final String[] FACE = {
        "int NONE", "int BAD", "int STATE", "int FULL", "long NO",
        "SkyWatchers()",
        "int hide(int,int)", "int watcher(int,int,int)", "int hang(int,int)", "int meat(int)",
        "int dead(int,int)", "int told(int,int)", "int feed(int,long)", "int text()", "int force(int)",
        "int find(int,int,int)", "int edge(int)", "int wasted(int)", "int alone(int,int)",
        "int isTrue(int,int)", "long has(int,int)", "long found(int)", "long good(int)",
        "int rather(int)", "int rest(int)", "int apart()", "int image()", "int back()", "int count(int)",
        "int sheet(int,int,int)", "int cell(int,int,int)", "int copy(int,int,int,int,int)",
        "int watchers(int,int,int,int)", "int taken(int,int)"};

    public static void main(String[] args) {
        Due due = new Due("FaceTest");
        TreeSet<String> want = new TreeSet<>(java.util.List.of(FACE));
        TreeSet<String> got = new TreeSet<>();
        Class<?> c = SkyWatchers.class;
        for (Field f : c.getDeclaredFields()) {
            boolean constant = Modifier.isStatic(f.getModifiers()) && Modifier.isFinal(f.getModifiers());
            add(got, f, f.getType() + " " + f.getName() + (constant ? "" : " that changes"));
        }
        for (Constructor<?> k : c.getDeclaredConstructors()) {
            add(got, k, "SkyWatchers" + types(k.getParameterTypes()));
        }
        TreeSet<String> publicNames = new TreeSet<>();
        for (Method m : c.getDeclaredMethods()) {
            add(got, m, m.getReturnType() + " " + m.getName() + types(m.getParameterTypes()));
            if (Modifier.isPublic(m.getModifiers())) {
                publicNames.add(m.getName());
            }
        }
        for (String s : want) {
            due.is("the face has " + s, got.contains(s) ? 1 : 0, 1);
        }
        for (String s : got) {
            due.is("the document has " + s, want.contains(s) ? 1 : 0, 1);
        }
        due.is("it is public", Modifier.isPublic(c.getModifiers()) ? 1 : 0, 1);
        due.is("it is final", Modifier.isFinal(c.getModifiers()) ? 1 : 0, 1);
        for (Class<?> inside : c.getDeclaredClasses()) {
            due.is(inside.getName() + " is static", Modifier.isStatic(inside.getModifiers()) ? 1 : 0, 1);
            due.is(inside.getName() + " is private", Modifier.isPrivate(inside.getModifiers()) ? 1 : 0, 1);
            for (Method m : inside.getDeclaredMethods()) {
                due.is(inside.getName() + "." + m.getName() + " has a public one's name",
                        publicNames.contains(m.getName()) ? 1 : 0, 0);
            }
        }
        for (Method m : c.getDeclaredMethods()) {
            boolean inner = !Modifier.isPublic(m.getModifiers()) && publicNames.contains(m.getName());
            due.is("private " + m.getName() + " has a public one's name", inner ? 1 : 0, 0);
        }
        due.end();
    }

    private static void add(TreeSet<String> got, Member member, String said) {
        if (!Modifier.isPrivate(member.getModifiers()) && !member.isSynthetic()) {
            got.add(said);
        }
    }

    private static String types(Class<?>[] types) {
        StringBuilder all = new StringBuilder("(");
        for (int i = 0; i < types.length; i++) {
            all.append(i == 0 ? "" : ",").append(types[i]);
        }
        return all.append(")").toString();
    }
}
