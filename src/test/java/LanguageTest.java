import java.io.IOException;
import java.lang.reflect.Constructor;
import java.lang.reflect.Field;
import java.lang.reflect.Method;
import java.lang.reflect.Modifier;
import java.nio.file.Files;
import java.nio.file.Path;
import java.util.Arrays;
import java.util.Set;
import java.util.TreeSet;
import java.util.regex.Matcher;
import java.util.regex.Pattern;

/** The face of the document, and those rules of LANGUAGE.md that can be seen in the text; runs in the project's folder. */
public final class LanguageTest {
    private static final String[] FACE = {"int feed(long)", "int end(int)", "int laws()", "int fault()", "int law(int)",
        "int heir()", "int thing(int, int, int, int, int)", "int worth(int, int, int)", "int gone()",
        "int look(int, int, int)", "int told(int, int)", "int way(int, int)", "int asks(int)", "int turns(int)",
        "int lie(int, int, int, int)", "int gain(int, int)", "int sum(int, int, int)", "int envies(int, int, int)",
        "int envy(int)", "int fairest()", "int bid(int)", "int settled(int, int)", "int loads(int)", "int load(int)",
        "int sheet(int, int, int)", "int lay(int, int, int)", "int worths(int, int, int, int)", "int count(int)"};
    private static final String[] REFUSED = {"\\bthrow\\b", "\\btry\\b", "\\bcatch\\b", "\\bsynchronized\\b",
        "\\bassert\\b", "->", "::", "\\bimport\\b", "\\bpackage\\b", "\\bObject\\b", "Exact\\b", "\\bprotected\\b",
        "\\bRandom\\b", "\\bThread\\b", "System\\.(?!arraycopy\\b)", "\\bnew \\w+\\([^)]*\\) \\{"};
    private static int wrong = 0;

    private static void dueSame(String what, Object got, Object want) {
        if (!got.equals(want)) {
            wrong++;
            System.out.println(what + " is " + got + ", due is " + want);
        }
    }

    private static void face() {
        Class<?> face = HouseSorted.class;
        Set<String> names = new TreeSet<>();
        Set<String> methods = new TreeSet<>();
        for (Method m : face.getDeclaredMethods()) {
            if (Modifier.isPublic(m.getModifiers())) {
                String types = Arrays.toString(m.getParameterTypes());
                methods.add(m.getReturnType() + " " + m.getName() + "(" + types.substring(1, types.length() - 1) + ")");
                names.add(m.getName());
            } else {
                dueSame(m + " private", Modifier.isPrivate(m.getModifiers()), true);
            }
        }
        dueSame("the methods", methods, new TreeSet<>(Arrays.asList(FACE)));
        for (Method m : face.getDeclaredMethods()) {
            boolean bears = names.contains(m.getName());
            dueSame(m + " with a name of the face", bears, Modifier.isPublic(m.getModifiers()));
        }
        for (Class<?> inside : face.getDeclaredClasses()) {
            dueSame(inside + " static", Modifier.isStatic(inside.getModifiers()), true);
            for (Method m : inside.getDeclaredMethods()) {
                dueSame(m + " with a name of the face", names.contains(m.getName()), false);
            }
        }
        dueSame("public and final", face.getModifiers(), Modifier.PUBLIC | Modifier.FINAL);
        constructorsAndFields(face);
    }

    private static void constructorsAndFields(Class<?> face) {
        Constructor<?>[] made = face.getDeclaredConstructors();
        dueSame("how many constructors", made.length, 1);
        dueSame("a public constructor", made[0].getModifiers(), Modifier.PUBLIC);
        Set<String> constants = new TreeSet<>();
        for (Field f : face.getDeclaredFields()) {
            dueSame(f + " final", Modifier.isFinal(f.getModifiers()), true);
            if (Modifier.isPublic(f.getModifiers())) {
                constants.add(f.getName());
            } else {
                dueSame(f + " private", Modifier.isPrivate(f.getModifiers()), true);
            }
        }
        dueSame("the constants", constants, new TreeSet<>(Arrays.asList("BAD", "STATE", "FULL", "NONE")));
    }

    private static void text() throws IOException {
        String all = Files.readString(Path.of("src/main/java/HouseSorted.java"));
        String code = all.replaceAll("(?s)/\\*.*?\\*/", "").replaceAll("//[^\n]*", "").replaceAll("\"[^\"]*\"", "\"\"");
        for (String refused : REFUSED) {
            Matcher m = Pattern.compile(refused).matcher(code);
            if (m.find()) {
                wrong++;
                System.out.println("the class has what LANGUAGE.md leaves out: " + m.group());
            }
        }
    }

    public static void main(String[] args) throws IOException {
        face();
        text();
        System.out.println(wrong == 0 ? "the face and the text are as due" : wrong + " things are not as due");
        if (wrong != 0) {
            System.exit(1);
        }
    }
}
