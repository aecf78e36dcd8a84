import java.io.IOException;
import java.lang.reflect.Constructor;
import java.lang.reflect.Field;
import java.lang.reflect.Method;
import java.lang.reflect.Modifier;
import java.nio.file.Files;
import java.nio.file.Path;
import java.util.Arrays;
import java.util.Set;
import java.util.TreeSet;

/** The public face is the document's and nothing more, and the inside keeps what LANGUAGE.md asks of members. */
public final class FaceTests {
    private static final String[] FACE = {
        "int insert(int) IllegalArgumentException IllegalStateException",
        "int takeLeast() IllegalStateException",
        "int takeGreatest() IllegalStateException",
        "int remove(int) IndexOutOfBoundsException",
        "int change(int,int) IndexOutOfBoundsException IllegalArgumentException",
        "int build()",
        "int clear()",
        "int size()",
        "int handles()",
        "int key(int) IndexOutOfBoundsException",
        "int fill(int,int) IllegalArgumentException IllegalStateException",
        "int least(int) IllegalArgumentException",
        "int greatest(int) IllegalArgumentException",
        "int ranked(int)",
        "int rank(int) IndexOutOfBoundsException",
        "int between(int,int)",
        "int at(int,int) IllegalArgumentException",
        "int where(int,int) IllegalArgumentException IndexOutOfBoundsException",
        "int violations(int) IllegalArgumentException",
        "int disturb(int,int,int) IllegalArgumentException IndexOutOfBoundsException",
        "int level(int) IllegalArgumentException",
        "int ancestors(int) IndexOutOfBoundsException",
        "int comparisons(int) IllegalArgumentException",
        "int forget()",
        "int wouldNeed(int,int,int) IllegalArgumentException",
        "int sortingNeeds(int) IllegalArgumentException",
        "int fewest()",
        "int type(int) IllegalArgumentException IllegalStateException",
        "int clearText()",
        "int fault()",
        "int run() IllegalArgumentException",
        "int undo() IllegalStateException",
        "long checksum()",
    };

    private static int wrong = 0;

    private static void due(boolean holds, String what) {
        if (!holds) {
            wrong++;
            System.out.println("not so: " + what);
        }
    }

    public static void main(String[] args) throws IOException {
        faceIsTheDocuments();
        methodsAreTheDocuments();
        constructorAndConstant();
        classesInside();
        System.out.println(wrong == 0 ? "the face is as due" : wrong + " things of the face are not as due");
        if (wrong != 0) {
            System.exit(1);
        }
    }

    /** A line of the document reads: public int type(int c) throws IllegalArgumentException, IllegalStateException; */
    private static void faceIsTheDocuments() throws IOException {
        Set<String> told = new TreeSet<>();
        for (String line : Files.readAllLines(Path.of("../shared/DOC.md"))) {
            if (line.matches(" +public (int|long) .*")) {
                told.add(line.trim().replaceAll("^public |;$| throws|(?<=int) [a-z]+(?=[,)])", "")
                    .replaceAll(", (?=int)", ",").replaceAll(", ", " "));
            }
        }
        Set<String> want = new TreeSet<>(Arrays.asList(FACE));
        due(told.equals(want), "the document's methods are " + want + ", it has " + told);
    }

    private static void methodsAreTheDocuments() {
        Set<String> found = new TreeSet<>();
        for (Method method : TwoEndQueues.class.getDeclaredMethods()) {
            if (Modifier.isPublic(method.getModifiers())) {
                found.add(signature(method));
                due(!Modifier.isStatic(method.getModifiers()), "not static: " + method);
            } else {
                due(Modifier.isPrivate(method.getModifiers()), "private: " + method);
            }
        }
        Set<String> want = new TreeSet<>(Arrays.asList(FACE));
        due(found.equals(want), "the methods are " + want + ", there are " + found);
    }

    private static String signature(Method method) {
        StringBuilder text = new StringBuilder(method.getReturnType() + " " + method.getName() + "(");
        for (int i = 0; i < method.getParameterCount(); i++) {
            text.append(i == 0 ? "" : ",").append(method.getParameterTypes()[i]);
        }
        text.append(')');
        for (Class<?> exception : method.getExceptionTypes()) {
            text.append(' ').append(exception.getSimpleName());
        }
        return text.toString();
    }

    private static void constructorAndConstant() {
        due(Modifier.isFinal(TwoEndQueues.class.getModifiers()), "the class is final");
        due(Modifier.isPublic(TwoEndQueues.class.getModifiers()), "the class is public");
        Constructor<?>[] constructors = TwoEndQueues.class.getDeclaredConstructors();
        due(constructors.length == 1 && constructors[0].getParameterCount() == 0
            && Modifier.isPublic(constructors[0].getModifiers()), "one public constructor without parameters");
        for (Field field : TwoEndQueues.class.getDeclaredFields()) {
            boolean isNone = field.getName().equals("NONE");
            due(isNone || Modifier.isPrivate(field.getModifiers()), "private: " + field);
            due(!isNone || field.toString().equals("public static final int TwoEndQueues.NONE"), "a constant: " + field);
        }
    }

    private static void classesInside() {
        Set<String> faceNames = new TreeSet<>();
        for (String line : FACE) {
            faceNames.add(line.substring(line.indexOf(' ') + 1, line.indexOf('(')));
        }
        Class<?>[] inside = TwoEndQueues.class.getDeclaredClasses();
        due(inside.length <= 12, "at most twelve classes");
        checkMembers(TwoEndQueues.class, faceNames);
        for (Class<?> type : inside) {
            due(Modifier.isStatic(type.getModifiers()) && !Modifier.isPublic(type.getModifiers()), "static, not public: " + type);
            checkMembers(type, faceNames);
        }
    }

    private static void checkMembers(Class<?> type, Set<String> faceNames) {
        for (Method method : type.getDeclaredMethods()) {
            due(method.getParameterCount() <= 7, "at most seven parameters: " + method);
            due(Modifier.isPublic(method.getModifiers()) || !faceNames.contains(method.getName()), "a name of its own: " + method);
        }
        for (Field field : type.getDeclaredFields()) {
            boolean isStatic = Modifier.isStatic(field.getModifiers());
            due(!isStatic || Modifier.isFinal(field.getModifiers()), "static fields are final: " + field);
        }
    }
}
