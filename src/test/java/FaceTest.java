import java.lang.reflect.Executable;
import java.lang.reflect.Field;
import java.lang.reflect.Method;
import java.lang.reflect.Modifier;
import java.nio.file.Files;
import java.nio.file.Path;
import java.util.ArrayList;
import java.util.List;
import java.util.Set;
import java.util.TreeSet;
import java.util.regex.Matcher;
import java.util.regex.Pattern;

/** The face is the document's, no more and no less, and the file keeps to what can be seen of LANGUAGE.md. */
public final class FaceTest {
    private static final Path DOCUMENT = Path.of("../shared/DOC.md");
    private static final Path SOURCE = Path.of("src/main/java/Spanledger.java");

    private static final Due due = new Due("FaceTest");

    public static void main(String[] args) throws Exception {
        Class<?> face = Spanledger.class;
        due.answer("the class", Modifier.toString(face.getModifiers()), "public final");
        due.answer("the face", membersOf(face), faceOfDocument());
        due.answer("fields that can be seen", visibleFieldsOf(face), List.of());
        for (Class<?> inside : face.getDeclaredClasses()) {
            due.answer("a class inside is static", Modifier.isStatic(inside.getModifiers()), true);
            due.answer("a class inside is not public", Modifier.isPublic(inside.getModifiers()), false);
        }
        privateNames(face);
        forbiddenWords();
        due.close();
    }

    private static Set<String> faceOfDocument() throws Exception {
        Set<String> all = new TreeSet<>();
        Matcher line = Pattern.compile("^    (public .*);$", Pattern.MULTILINE).matcher(Files.readString(DOCUMENT));
        while (line.find()) {
            all.add(line.group(1).replaceAll("([(,] ?)int [a-z]+", "$1int").replaceAll(" ?([,(]) ?", "$1"));
        }
        return all;
    }

    private static Set<String> membersOf(Class<?> face) {
        Set<String> all = new TreeSet<>();
        List<Executable> members = new ArrayList<>(List.of(face.getDeclaredMethods()));
        members.addAll(List.of(face.getDeclaredConstructors()));
        for (Executable member : members) {
            if (!Modifier.isPrivate(member.getModifiers()) && !member.isSynthetic()) {
                all.add(signatureOf(member));
            }
        }
        return all;
    }

    private static String signatureOf(Executable member) {
        StringBuilder text = new StringBuilder(Modifier.toString(member.getModifiers())).append(' ');
        if (member instanceof Method) {
            text.append(((Method) member).getReturnType().getSimpleName()).append(' ');
        }
        text.append(member.getName()).append('(').append(namesOf(member.getParameterTypes())).append(')');
        if (member.getExceptionTypes().length > 0) {
            text.append(" throws ").append(namesOf(member.getExceptionTypes()));
        }
        return text.toString();
    }

    private static String namesOf(Class<?>[] types) {
        List<String> names = new ArrayList<>();
        for (Class<?> type : types) {
            names.add(type.getSimpleName());
        }
        return String.join(",", names);
    }

    private static List<String> visibleFieldsOf(Class<?> face) {
        List<String> visible = new ArrayList<>();
        for (Field field : face.getDeclaredFields()) {
            boolean isChanging = Modifier.isStatic(field.getModifiers()) && !Modifier.isFinal(field.getModifiers());
            if (!Modifier.isPrivate(field.getModifiers()) || isChanging) {
                visible.add(field.getName());
            }
        }
        return visible;
    }

    private static void privateNames(Class<?> face) {
        Set<String> ofFace = new TreeSet<>();
        Set<String> others = new TreeSet<>();
        for (Method method : face.getDeclaredMethods()) {
            (Modifier.isPublic(method.getModifiers()) ? ofFace : others).add(method.getName());
        }
        for (Class<?> inside : face.getDeclaredClasses()) {
            for (Method method : inside.getDeclaredMethods()) {
                others.add(method.getName());
            }
        }
        others.retainAll(ofFace);
        due.answer("private methods that bear a public one's name", others, Set.of());
    }

    private static void forbiddenWords() throws Exception {
        String source = Files.readString(SOURCE);
        String words = "\\b(package|finally|synchronized|assert|protected|hashCode|System\\.(?!arraycopy)|Thread)\\b"
                + "|Exact\\(|->|::|\\+ \"|\" \\+";
        Matcher found = Pattern.compile(words).matcher(source);
        due.answer("a word that the language rules leave out", found.find() ? found.group() : "", "");
        due.answer("signs beyond 127", source.chars().filter(c -> c > 127).count(), 0L);
        due.answer("the longest line is short", source.lines().mapToInt(String::length).max().orElse(0) <= 120, true);
    }
}
