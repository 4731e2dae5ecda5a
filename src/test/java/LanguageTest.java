import java.lang.reflect.Constructor;
import java.lang.reflect.Field;
import java.lang.reflect.Method;
import java.lang.reflect.Modifier;
import java.nio.file.Files;
import java.nio.file.Path;
import java.util.Arrays;
import java.util.Set;
import java.util.TreeSet;
import java.util.regex.Pattern;

/** The face of the document, and those rules of LANGUAGE.md that a look at the source or the class can tell. */
public final class LanguageTest {
    private static final String[] FACE = {
        "int event(int,int)", "int activity(int,int,int,int)", "boolean source(int,int)", "boolean keep(int,boolean)",
        "boolean turn(int)", "boolean cancel(int,boolean)", "int group(int,int,int,int,int,int)", "int spread()",
        "int of(int,int)", "int look(int,int)", "int cause(int)", "int way(int,int)", "int ring(int)",
        "int told(int,int)", "long cost()", "long choose()", "int rule(int)", "int recover()", "int count(int)"};
    private static final String[] BANNED = {"\\bthrow\\b", "\\bthrows\\b", "\\btry\\b", "\\bcatch\\b",
        "\\bsynchronized\\b", "\\bassert\\b", "->", "::", "\\bpackage\\b", "\\bSystem\\.(?!arraycopy\\b)", "\\bObject\\b",
        "\\bimport (?!java\\.util\\.(Arrays|ArrayList|List);)", "\\w+Exact\\b"};
    private static final Check CHECK = new Check();

    public static void main(String[] args) throws Exception {
        face();
        for (Class<?> inside : DelayDesk.class.getDeclaredClasses()) {
            insideClass(inside);
        }
        source(args.length > 0 ? args[0] : "src/main/java/DelayDesk.java");
        CHECK.end();
    }

    private static void face() throws Exception {
        Set<String> due = new TreeSet<>(Arrays.asList(FACE));
        Set<String> found = new TreeSet<>();
        Set<String> publicNames = new TreeSet<>();
        for (Method m : DelayDesk.class.getDeclaredMethods()) {
            if (Modifier.isPublic(m.getModifiers())) {
                publicNames.add(m.getName());
                found.add(signature(m));
            }
        }
        CHECK.due("face " + found, found.equals(due), true);
        for (Method m : DelayDesk.class.getDeclaredMethods()) {
            boolean isPublic = Modifier.isPublic(m.getModifiers());
            CHECK.due("private: " + m, isPublic || Modifier.isPrivate(m.getModifiers()), true);
            CHECK.due("name of its own: " + m, isPublic || !publicNames.contains(m.getName()), true);
            CHECK.due("parameters: " + m, m.getParameterCount() <= 7, true);
        }
        for (Field f : DelayDesk.class.getDeclaredFields()) {
            boolean isNone = f.getName().equals("NONE");
            CHECK.due("field: " + f, isNone ? Modifier.isPublic(f.getModifiers()) : Modifier.isPrivate(f.getModifiers()),
                    true);
        }
        CHECK.due("NONE", DelayDesk.class.getField("NONE").getInt(null), -1);
        Constructor<?>[] made = DelayDesk.class.getDeclaredConstructors();
        CHECK.due("one constructor", made.length, 1);
        CHECK.due("without arguments", made[0].getParameterCount(), 0);
        CHECK.due("public and final", Modifier.isPublic(DelayDesk.class.getModifiers())
                && Modifier.isFinal(DelayDesk.class.getModifiers()), true);
        CHECK.due("classes inside", DelayDesk.class.getDeclaredClasses().length <= 11, true);
    }

    private static String signature(Method m) {
        StringBuilder types = new StringBuilder();
        for (Class<?> type : m.getParameterTypes()) {
            types.append(types.length() == 0 ? "" : ",").append(type.getName());
        }
        return m.getReturnType().getName() + " " + m.getName() + "(" + types + ")";
    }

    private static void insideClass(Class<?> inside) {
        CHECK.due("static: " + inside, Modifier.isStatic(inside.getModifiers()), true);
        int fields = 0;
        for (Field f : inside.getDeclaredFields()) {
            fields += Modifier.isStatic(f.getModifiers()) ? 0 : 1;
        }
        CHECK.due("fields: " + inside, fields <= 20, true);
        for (Method m : inside.getDeclaredMethods()) {
            CHECK.due("parameters: " + m, m.getParameterCount() <= 7, true);
        }
    }

    private static void source(String file) throws Exception {
        String text = Files.readString(Path.of(file));
        String code = text.replaceAll("(?s)/\\*.*?\\*/", "").replaceAll("//[^\n]*", "");
        for (String banned : BANNED) {
            CHECK.due("no " + banned, Pattern.compile(banned).matcher(code).find(), false);
        }
    }
}
