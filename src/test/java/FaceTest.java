import java.io.IOException;
import java.lang.reflect.Constructor;
import java.lang.reflect.Field;
import java.lang.reflect.Method;
import java.lang.reflect.Modifier;
import java.nio.file.Files;
import java.nio.file.Path;
import java.util.Arrays;
import java.util.HashSet;
import java.util.Set;
import java.util.regex.Matcher;
import java.util.regex.Pattern;

/** The face is that of the document, no more and no less; and the plainest rules of LANGUAGE.md hold. */
public final class FaceTest {
    private static final String[] FACE = {
        "int farm(int,int,int)", "int farmIs(int,int)", "int become(int,int)", "int as(int,int)", "int parch(int,int)",
        "int graze(int,int)", "int carrier(int)", "int carrierIs(int,int)", "int pool(int,int)", "int swap(int,int)",
        "int carry(int,int,int)", "int feed(long,int)", "int text(int)", "int untell(int)", "int law(int,int,int,int)",
        "int hours(int)", "int loose(int)", "int hour(int)", "int seed(int)", "int then(int,int)", "int first(int,int)",
        "int round(int,int)", "int fewest(int,int)", "int odds(int,int)", "int whose(int,int)", "int fits(int)",
        "int voice(int,int,int)", "int body(int)", "int sheet(int,int,int)", "int put(int,int,int)",
        "int move(int,int,int,int,int)", "int parches(int)", "int judge(int)", "int image()", "int restore()",
        "int tell(int)", "int check()", "int count(int)", "int told(int)",
    };
    private static final String[] FORBIDDEN = {
        "\\bthrow\\b", "\\btry\\b", "\\bcatch\\b", "\\bsynchronized\\b", "\\bassert\\b", "\\bimport\\b", "\\bpackage\\b",
        "->", "::", "\\bhashCode\\b", "\\btoString\\b", "Exact\\b", "\\bvar\\b", "\\bfloat\\b", "\\bdouble\\b",
    };

    private static int wrong = 0;

    private static void due(boolean holds, String what) {
        if (!holds) {
            wrong++;
            System.out.println("face: " + what);
        }
    }

    public static void main(String[] args) throws IOException {
        members();
        for (Class<?> inside : ThirstPay.class.getDeclaredClasses()) {
            inside(inside);
        }
        fieldsOf(ThirstPay.class);
        due(ThirstPay.class.getDeclaredClasses().length + 1 <= 12, "there are too many classes");
        source();
        System.out.println(wrong == 0 ? "FaceTest: all is as due" : wrong + " are not as due");
        if (wrong != 0) {
            System.exit(1);
        }
    }

    private static void members() {
        Set<String> due = new HashSet<>(Arrays.asList(FACE));
        Set<String> found = new HashSet<>();
        int mod = ThirstPay.class.getModifiers();
        due(Modifier.isPublic(mod) && Modifier.isFinal(mod), "the class is not public and final");
        for (Method m : ThirstPay.class.getDeclaredMethods()) {
            String says = signature(m);
            if (Modifier.isPrivate(m.getModifiers())) {
                due(!isOfFace(m.getName()), "private, with a name of the face: " + says);
            } else {
                due(m.getModifiers() == Modifier.PUBLIC, "not just public: " + says);
                found.add(says);
            }
        }
        due(found.equals(due), "the face is " + found);
        Constructor<?>[] made = ThirstPay.class.getDeclaredConstructors();
        due(made.length == 1 && Modifier.isPublic(made[0].getModifiers()) && made[0].getParameterCount() == 0,
            "the constructor is another");
    }

    private static String signature(Method m) {
        StringBuilder says = new StringBuilder(m.getReturnType().getSimpleName()).append(' ').append(m.getName()).append('(');
        for (Class<?> p : m.getParameterTypes()) {
            says.append(says.charAt(says.length() - 1) == '(' ? "" : ",").append(p.getSimpleName());
        }
        return says.append(')').toString();
    }

    private static boolean isOfFace(String name) {
        for (String f : FACE) {
            if (f.startsWith("int " + name + "(")) {
                return true;
            }
        }
        return false;
    }

    private static void inside(Class<?> c) {
        int mod = c.getModifiers();
        due(Modifier.isStatic(mod) && !Modifier.isPublic(mod) && !Modifier.isProtected(mod), c + " is no inner class as due");
        for (Method m : c.getDeclaredMethods()) {
            due(!isOfFace(m.getName()), c + " has a method with a name of the face: " + m.getName());
            due(m.getParameterCount() <= 7, c + " has too many parameters in " + m.getName());
        }
        fieldsOf(c);
    }

    private static void fieldsOf(Class<?> c) {
        int own = 0;
        for (Field f : c.getDeclaredFields()) {
            boolean isStatic = Modifier.isStatic(f.getModifiers());
            due(!isStatic || Modifier.isFinal(f.getModifiers()), c + " has a static field that is not final: " + f.getName());
            due(c != ThirstPay.class || Modifier.isPrivate(f.getModifiers()), "not private: " + f.getName());
            own += isStatic ? 0 : 1;
        }
        due(own <= 20, c + " has too many fields");
    }

    private static void source() throws IOException {
        Path path = Path.of("src/main/java/ThirstPay.java");
        due(Files.exists(path), "the source is not at " + path);
        if (!Files.exists(path)) {
            return;
        }
        StringBuilder code = new StringBuilder();
        for (String line : Files.readAllLines(path)) {
            String bare = line.strip();
            if (!bare.startsWith("//") && !bare.startsWith("/**")) {
                code.append(line).append('\n');
            }
        }
        for (String word : FORBIDDEN) {
            Matcher found = Pattern.compile(word).matcher(code);
            due(!found.find(), "the program has " + word);
        }
    }
}
