import java.lang.reflect.Constructor;
import java.lang.reflect.Field;
import java.lang.reflect.Method;
import java.lang.reflect.Modifier;
import java.nio.file.Files;
import java.nio.file.Path;
import java.util.ArrayList;
import java.util.Collections;
import java.util.List;
import java.util.regex.Matcher;
import java.util.regex.Pattern;

/** The public face is that of the document, and no more. */
final class FaceTest {
    public static void main(String[] args) throws Exception {
        String document = Files.readString(Path.of("../shared/DOC.md"));
        String face = document.substring(document.indexOf("public final class Blockloom"), document.indexOf("## Terms"));
        methods(face);
        members();
        Dues.close("FaceTest");
    }

    private static void methods(String face) {
        List<String> want = new ArrayList<>();
        Matcher matcher = Pattern.compile("public (\\w+) (\\w+)\\(([^)]*)\\)( throws ([^;]*))?;").matcher(face);
        while (matcher.find()) {
            String parameters = matcher.group(3).replaceAll(" \\w+(, |$)", "$1").trim();
            String thrown = matcher.group(5) == null ? "" : matcher.group(5);
            want.add(matcher.group(1) + " " + matcher.group(2) + "(" + parameters + ") " + thrown);
        }
        List<String> got = new ArrayList<>();
        for (Method method : Blockloom.class.getDeclaredMethods()) {
            if (Modifier.isPrivate(method.getModifiers()) || method.isSynthetic()) continue;
            List<String> parameters = new ArrayList<>();
            for (Class<?> type : method.getParameterTypes()) parameters.add(type.getSimpleName());
            List<String> thrown = new ArrayList<>();
            for (Class<?> type : method.getExceptionTypes()) thrown.add(type.getSimpleName());
            got.add(method.getReturnType().getSimpleName() + " " + method.getName() + "("
                + String.join(", ", parameters) + ") " + String.join(", ", thrown));
            Dues.due("public " + method.getName(), true, Modifier.isPublic(method.getModifiers()));
            Dues.due("not static " + method.getName(), false, Modifier.isStatic(method.getModifiers()));
        }
        Collections.sort(want);
        Collections.sort(got);
        Dues.due("methods of the document", 53, want.size());
        Dues.due("methods", want, got);
    }

    private static void members() {
        Dues.due("final", true, Modifier.isFinal(Blockloom.class.getModifiers()));
        Constructor<?>[] constructors = Blockloom.class.getDeclaredConstructors();
        Dues.due("constructors", 1, constructors.length);
        Dues.due("public one", true, Modifier.isPublic(constructors[0].getModifiers()));
        for (Field field : Blockloom.class.getDeclaredFields()) {
            Dues.due("private " + field.getName(), true, Modifier.isPrivate(field.getModifiers()));
            boolean isStatic = Modifier.isStatic(field.getModifiers());
            Dues.due("static ones are final " + field.getName(), true, !isStatic || Modifier.isFinal(field.getModifiers()));
        }
        List<String> face = new ArrayList<>();
        for (Method method : Blockloom.class.getDeclaredMethods()) {
            if (Modifier.isPublic(method.getModifiers())) face.add(method.getName());
        }
        Class<?>[] inside = Blockloom.class.getDeclaredClasses();
        Dues.due("some twelve classes", true, inside.length <= 12);
        for (Class<?> one : inside) {
            Dues.due("private, static " + one, true,
                Modifier.isPrivate(one.getModifiers()) && Modifier.isStatic(one.getModifiers()));
            Dues.due("some twenty fields " + one, true, one.getDeclaredFields().length <= 22);
            for (Method method : one.getDeclaredMethods()) {
                Dues.due("no name of the face: " + one + " " + method.getName(), false, face.contains(method.getName()));
                Dues.due("seven parameters at most: " + method, true, method.getParameterCount() <= 7);
            }
        }
    }
}
