import java.lang.reflect.Constructor;
import java.lang.reflect.Field;
import java.lang.reflect.Member;
import java.lang.reflect.Method;
import java.lang.reflect.Modifier;
import java.nio.file.Files;
import java.nio.file.Path;
import java.util.ArrayList;
import java.util.Arrays;
import java.util.List;
import java.util.Set;
import java.util.TreeSet;
import java.util.regex.Matcher;
import java.util.regex.Pattern;

/** The public face, word for word as the document tells it, and rule 1 of the language. */
public final class FaceTest {
    public static void main(String[] args) throws Exception {
        Class<?> face = WombatBowls.class;
        Check.due("the class is public and final", Modifier.isPublic(face.getModifiers())
            && Modifier.isFinal(face.getModifiers()), true);
        Check.due("the public methods", publicMethods(face), methodsOfDocument());
        Constructor<?>[] constructors = face.getDeclaredConstructors();
        Check.due("constructors", constructors.length, 1);
        Check.due("the constructor is public", Modifier.isPublic(constructors[0].getModifiers()), true);
        List<Member> members = new ArrayList<>(Arrays.asList(face.getDeclaredFields()));
        members.addAll(Arrays.asList(face.getDeclaredMethods()));
        Set<String> names = new TreeSet<>();
        for (Member member : members) {
            boolean isPublic = Modifier.isPublic(member.getModifiers());
            if (isPublic) {
                names.add(member.getName());
            }
            Check.due(member + " is public or private",
                member.isSynthetic() || isPublic || Modifier.isPrivate(member.getModifiers()), true);
        }
        for (Field field : face.getDeclaredFields()) {
            Check.due(field + " is private", Modifier.isPrivate(field.getModifiers()), true);
        }
        checkPrivateNames(face, names);
        for (Class<?> inside : face.getDeclaredClasses()) {
            Check.due(inside + " is static", Modifier.isStatic(inside.getModifiers()), true);
            Check.due(inside + " is public", Modifier.isPublic(inside.getModifiers()), false);
            checkPrivateNames(inside, names);
        }
        Check.end("FaceTest");
    }

    private static void checkPrivateNames(Class<?> type, Set<String> publicNames) {
        for (Method method : type.getDeclaredMethods()) {
            if (!Modifier.isPublic(method.getModifiers())) {
                Check.due(method + " bears the name of a public one", publicNames.contains(method.getName()), false);
            }
        }
    }

    private static Set<String> publicMethods(Class<?> face) {
        Set<String> found = new TreeSet<>();
        for (Method method : face.getDeclaredMethods()) {
            if (Modifier.isPublic(method.getModifiers())) {
                StringBuilder line = new StringBuilder();
                line.append(method.getReturnType().getSimpleName()).append(' ').append(method.getName());
                line.append(Modifier.isStatic(method.getModifiers()) ? " static" : "");
                for (Class<?> type : method.getParameterTypes()) {
                    line.append(' ').append(type.getSimpleName());
                }
                for (Class<?> type : method.getExceptionTypes()) {
                    line.append(' ').append(type.getSimpleName());
                }
                found.add(line.toString());
            }
        }
        return found;
    }

    static Set<String> methodsOfDocument() throws Exception {
        String document = Files.readString(Path.of("../shared/DOC.md"));
        Pattern line = Pattern.compile("(?m)^    public (\\w+) (\\w+)\\(([^)]*)\\)(?: throws ([\\w, ]+))?;$");
        Matcher found = line.matcher(document);
        Set<String> methods = new TreeSet<>();
        while (found.find()) {
            String parameters = found.group(3).replaceAll("(\\w+) \\w+(, )?", " $1");
            String exceptions = found.group(4) == null ? "" : " " + found.group(4).replace(",", "");
            methods.add(found.group(1) + " " + found.group(2) + parameters + exceptions);
        }
        return methods;
    }
}
