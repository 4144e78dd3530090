import java.io.IOException;
import java.lang.reflect.Constructor;
import java.lang.reflect.Field;
import java.lang.reflect.Method;
import java.lang.reflect.Modifier;
import java.nio.file.Files;
import java.nio.file.Path;
import java.util.ArrayList;
import java.util.Arrays;
import java.util.HashSet;
import java.util.List;
import java.util.Set;
import java.util.TreeSet;
import java.util.regex.Matcher;
import java.util.regex.Pattern;

/** The face is that of ../shared/DOC.md, and rule 1 of ../shared/LANGUAGE.md holds of its members. */
final class FaceTest {
    private FaceTest() {
    }

    public static void main(String[] args) throws IOException {
        face(Files.readString(Path.of(args[1], "DOC.md")));
        members();
        Check.end();
    }

    private static String signature(Method method) {
        List<String> thrown = new ArrayList<>();
        for (Class<?> kind : method.getExceptionTypes()) {
            thrown.add(kind.getSimpleName());
        }
        List<String> taken = new ArrayList<>();
        for (Class<?> kind : method.getParameterTypes()) {
            taken.add(kind.getSimpleName());
        }
        return method.getReturnType().getSimpleName() + " " + method.getName() + taken + thrown;
    }

    private static void face(String doc) {
        Set<String> due = new TreeSet<>();
        String block = doc.substring(doc.indexOf("```java"), doc.lastIndexOf("```"));
        Pattern line = Pattern.compile("public (\\w+) (\\w+)\\(([^)]*)\\)(?: throws ([^;]*))?;");
        for (Matcher found = line.matcher(block); found.find();) {
            List<String> taken = new ArrayList<>();
            for (String parameter : found.group(3).isEmpty() ? new String[0] : found.group(3).split(", ")) {
                taken.add(parameter.split(" ")[0]);
            }
            List<String> thrown = found.group(4) == null ? List.of() : Arrays.asList(found.group(4).split(", "));
            due.add(found.group(1) + " " + found.group(2) + taken + thrown);
        }
        Set<String> got = new TreeSet<>();
        for (Method method : StablepairBureau.class.getDeclaredMethods()) {
            if (Modifier.isPublic(method.getModifiers())) {
                got.add(signature(method));
            }
        }
        Check.due("calls of the document", 52, due.size());
        Check.due("the face", due, got);
    }

    private static void members() {
        Class<?> face = StablepairBureau.class;
        Check.due("public and final", true,
                Modifier.isPublic(face.getModifiers()) && Modifier.isFinal(face.getModifiers()));
        Set<String> names = new HashSet<>();
        for (Method method : face.getDeclaredMethods()) {
            if (Modifier.isPublic(method.getModifiers())) {
                names.add(method.getName());
            }
        }
        for (Method method : face.getDeclaredMethods()) {
            int kind = method.getModifiers();
            Check.due("public or private " + method, true, Modifier.isPublic(kind) || Modifier.isPrivate(kind));
            Check.due("a name of its own " + method, false,
                    Modifier.isPrivate(kind) && names.contains(method.getName()));
        }
        for (Field field : face.getDeclaredFields()) {
            Check.due("private " + field, true, Modifier.isPrivate(field.getModifiers()));
            Check.due("final " + field, true, Modifier.isFinal(field.getModifiers()));
        }
        Constructor<?>[] makers = face.getDeclaredConstructors();
        Check.due("one constructor", 1, makers.length);
        Check.due("it is public", true, Modifier.isPublic(makers[0].getModifiers()));
        Check.due("at most twelve classes", true, face.getDeclaredClasses().length <= 11);
        for (Class<?> inner : face.getDeclaredClasses()) {
            Check.due("static " + inner, true, Modifier.isStatic(inner.getModifiers()));
            Check.due("not public " + inner, false, Modifier.isPublic(inner.getModifiers()));
            for (Method method : inner.getDeclaredMethods()) {
                Check.due("no name of the face " + method, false, names.contains(method.getName()));
            }
        }
    }
}
