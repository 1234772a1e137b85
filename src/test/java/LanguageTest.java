import java.io.IOException;
import java.lang.reflect.Constructor;
import java.lang.reflect.Field;
import java.lang.reflect.Method;
import java.lang.reflect.Modifier;
import java.nio.file.Files;
import java.nio.file.Path;
import java.util.Set;
import java.util.TreeSet;
import java.util.regex.Matcher;
import java.util.regex.Pattern;

/** The face is the document's and no more, and the source keeps to what can be seen of LANGUAGE.md. */
final class LanguageTest {
    private static final Set<String> FACE = Set.of("int church(int)", "int hearer(int,int,int,int,int,boolean)",
        "int leave(int)", "int set(int,int)", "int say(int)", "int wipe()", "int fault()", "int heard(int,int,int)",
        "int sum(int,int)", "int first(int)", "int gain()", "int order(int,int)", "int start(int)", "int seated(int)",
        "int hired(int,int)", "int least()", "int seen(int,int)", "int forget()", "int preached(int)", "int surely()",
        "int dips(int,int)", "int alike(int)", "int parishes(int)", "long cold(int,int,int)",
        "int year(int,int,int)", "int image(int)", "int restore(int)", "int told(int)");
    private static final Set<String> CONSTANTS = Set.of("NONE", "UNKNOWN", "OUTSIDE", "STATE", "FULL", "NO", "LOST");
    private static final String[] RULED_OUT = {"->", "::", "@", "\\bimport\\b", "\\bpackage\\b", "\\btry\\b",
        "\\bcatch\\b", "\\bfinally\\b", "\\bsynchronized\\b", "\\bassert\\b", "\\bthrows?\\b", "\\bvar\\b", "\\bdouble\\b",
        "\\bfloat\\b", "\\bprotected\\b", "\\bnative\\b", "\\bvolatile\\b", "Exact\\b", "System\\.(?!arraycopy\\b)"};

    public static void main(String[] args) throws IOException {
        Class<?> face = NodTax.class;
        Check.holds("the class is public and final",
                Modifier.isPublic(face.getModifiers()) && Modifier.isFinal(face.getModifiers()));
        methods(face);
        fields(face);
        constants();
        for (Constructor<?> c : face.getDeclaredConstructors()) {
            Check.holds("one constructor without numbers", c.getParameterCount() == 0 && Modifier.isPublic(c.getModifiers()));
        }
        source(Files.readString(Path.of("src/main/java/NodTax.java")));
        Check.end();
    }

    private static void methods(Class<?> face) {
        Set<String> found = new TreeSet<>();
        Set<String> names = new TreeSet<>();
        for (Method m : face.getDeclaredMethods()) {
            if (Modifier.isPublic(m.getModifiers())) {
                String whole = m.toString();
                String parameters = whole.substring(whole.indexOf('('));
                found.add(m.getReturnType() + " " + m.getName() + parameters);
                names.add(m.getName());
            }
        }
        Check.holds("the methods are the document's: " + found, found.equals(new TreeSet<>(FACE)));
        hidden(face, names, false);
        for (Class<?> inside : face.getDeclaredClasses()) {
            Check.holds(inside + " is static and not public",
                    Modifier.isStatic(inside.getModifiers()) && !Modifier.isPublic(inside.getModifiers()));
            hidden(inside, names, true);
        }
        Check.holds("some twelve classes", face.getDeclaredClasses().length <= 11);
    }

    private static void hidden(Class<?> where, Set<String> names, boolean inside) {
        for (Method m : where.getDeclaredMethods()) {
            if (!Modifier.isPublic(m.getModifiers())) {
                Check.holds(m + " is private", inside || Modifier.isPrivate(m.getModifiers()));
                Check.holds(m + " bears a name of its own", !names.contains(m.getName()));
            }
            Check.holds(m + " has seven parameters at most", m.getParameterCount() <= 7);
        }
        int own = 0;
        for (Field f : where.getDeclaredFields()) {
            own += Modifier.isStatic(f.getModifiers()) ? 0 : 1;
            Check.holds(f + ": static fields are final",
                    !Modifier.isStatic(f.getModifiers()) || Modifier.isFinal(f.getModifiers()));
        }
        Check.holds(where + " has some twenty fields at most", own <= 20);
    }

    private static void fields(Class<?> face) {
        for (Field f : face.getDeclaredFields()) {
            boolean isConstant = CONSTANTS.contains(f.getName());
            Check.holds(f + " is as the document says",
                    isConstant ? Modifier.isPublic(f.getModifiers()) : Modifier.isPrivate(f.getModifiers()));
        }
    }

    private static void constants() {
        Check.due("NONE", NodTax.NONE, -6);
        Check.due("UNKNOWN", NodTax.UNKNOWN, -1);
        Check.due("OUTSIDE", NodTax.OUTSIDE, -2);
        Check.due("STATE", NodTax.STATE, -3);
        Check.due("FULL", NodTax.FULL, -4);
        Check.due("NO", NodTax.NO, -5);
        Check.due("LOST", NodTax.LOST, -1000000000000000000L);
    }

    private static void source(String text) {
        String code = text.replaceAll("(?s)/\\*.*?\\*/", "").replaceAll("//[^\n]*", "");
        for (String out : RULED_OUT) {
            Matcher matcher = Pattern.compile(out).matcher(code);
            Check.holds("no " + out + " in the source", !matcher.find());
        }
        Matcher library = Pattern.compile("\\b(Integer|Long|Math|Arrays|List|String)\\.(\\w+)").matcher(code);
        while (library.find()) {
            Check.holds(library.group() + " is of the library that may be used",
                    Set.of("Integer.bitCount", "Math.min", "Math.max").contains(library.group()));
        }
    }
}
