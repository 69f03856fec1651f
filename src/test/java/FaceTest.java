import java.io.IOException;
import java.lang.reflect.Constructor;
import java.lang.reflect.Field;
import java.lang.reflect.Method;
import java.lang.reflect.Modifier;
import java.nio.file.Files;
import java.nio.file.Path;
import java.util.Set;
import java.util.TreeSet;
import java.util.regex.Pattern;

/** That the class has the document's face and no more, and no word that LANGUAGE.md rules out. */
public final class FaceTest {
    private static final String[] FACE = {
        "int train(int)", "int stop(int,int,int,int)", "boolean days(int,int)", "boolean cut(int)",
        "boolean shift(int,int)", "boolean sign(int,int)", "boolean change(int)", "int about(int)",
        "int signs(int,int)", "int table(int)", "int row(int)", "int column(int)", "int cell(int,int,int)",
        "int breaches(int)", "int breach(int,int)", "int lanes()", "int lane(int)",
        "int way(int,int,int,int,int)", "int departures(int,int,int)", "int departure(int,int,int,int)",
    };
    private static final String[] RULED_OUT = {
        "\\bthrows?\\b", "\\btry\\b", "\\bcatch\\b", "\\bsynchronized\\b", "\\bassert\\b", "->", "::", "Exact\\(",
        "\\bpackage\\b", "\\bequals\\b", "hashCode", "toString", "Random", "Thread", "System\\.(?!arraycopy)",
        "MAX_VALUE", "MIN_VALUE",
        "import (?!java\\.util\\.(Arrays|ArrayList|List|Iterator);)",
    };
    private static int wrong = 0;

    public static void main(String[] args) throws IOException {
        checkFace();
        checkNames();
        checkWords();
        System.out.println(wrong == 0 ? "the face is as due" : wrong + " faults");
        if (wrong != 0) {
            System.exit(1);
        }
    }

    private static void fault(String text) {
        wrong++;
        System.out.println(text);
    }

    private static void checkFace() {
        Set<String> want = new TreeSet<>(Set.of(FACE));
        for (Method m : TrainBook.class.getDeclaredMethods()) {
            if (!Modifier.isPrivate(m.getModifiers()) && !want.remove(describe(m))) {
                fault("not of the face: " + m);
            }
        }
        for (String missing : want) {
            fault("missing: " + missing);
        }
        checkConstants();
        Constructor<?>[] constructors = TrainBook.class.getDeclaredConstructors();
        if (constructors.length != 1 || !Modifier.isPublic(constructors[0].getModifiers())
                || constructors[0].getParameterCount() != 0) {
            fault("not the constructor of the face");
        }
        if (!Modifier.isFinal(TrainBook.class.getModifiers())) {
            fault("the class is not final");
        }
    }

    private static void checkConstants() {
        int constants = 0;
        for (Field f : TrainBook.class.getDeclaredFields()) {
            if (f.toString().equals("public static final int TrainBook.NONE")) {
                constants++;
            } else if (!Modifier.isPrivate(f.getModifiers())) {
                fault("not of the face: " + f);
            }
        }
        if (constants != 1 || TrainBook.NONE != -1) {
            fault("NONE is not the constant of the face");
        }
    }

    private static String describe(Method m) {
        StringBuilder text = new StringBuilder();
        if (!Modifier.isPublic(m.getModifiers()) || Modifier.isStatic(m.getModifiers())) {
            text.append("not a public method of an object: ");
        }
        text.append(m.getReturnType().getName()).append(' ').append(m.getName()).append('(');
        for (int i = 0; i < m.getParameterCount(); i++) {
            text.append(i == 0 ? "" : ",").append(m.getParameterTypes()[i].getName());
        }
        return text.append(')').toString();
    }

    private static void checkNames() {
        Set<String> names = new TreeSet<>();
        for (String method : FACE) {
            names.add(method.substring(method.indexOf(' ') + 1, method.indexOf('(')));
        }
        Class<?>[] nested = TrainBook.class.getDeclaredClasses();
        if (nested.length > 11) {
            fault("too many classes: " + nested.length);
        }
        for (Class<?> c : nested) {
            if (!Modifier.isStatic(c.getModifiers()) || Modifier.isPublic(c.getModifiers())) {
                fault("not a private static class: " + c);
            }
            for (Method m : c.getDeclaredMethods()) {
                if (names.contains(m.getName()) || m.getParameterCount() > 7) {
                    fault("a public method's name, or too many parameters: " + m);
                }
            }
            checkStatics(c);
        }
        for (Method m : TrainBook.class.getDeclaredMethods()) {
            if (Modifier.isPrivate(m.getModifiers()) && names.contains(m.getName())) {
                fault("a public method's name: " + m);
            }
        }
        checkStatics(TrainBook.class);
    }

    private static void checkStatics(Class<?> c) {
        int fields = 0;
        for (Field f : c.getDeclaredFields()) {
            boolean isStatic = Modifier.isStatic(f.getModifiers());
            fields += isStatic ? 0 : 1;
            if (isStatic && !Modifier.isFinal(f.getModifiers())) {
                fault("static state: " + f);
            }
        }
        if (fields > 20) {
            fault("too many fields: " + c);
        }
    }

    private static void checkWords() throws IOException {
        String source = Files.readString(Path.of("src/main/java/TrainBook.java"));
        String code = source.replaceAll("(?s)/\\*.*?\\*/", "").replaceAll("//[^\n]*", "");
        for (String word : RULED_OUT) {
            if (Pattern.compile(word).matcher(code).find()) {
                fault("ruled out: " + word);
            }
        }
    }
}
