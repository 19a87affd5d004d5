import java.io.IOException;
import java.lang.reflect.Constructor;
import java.lang.reflect.Field;
import java.lang.reflect.Method;
import java.lang.reflect.Modifier;
import java.nio.charset.StandardCharsets;
import java.nio.file.Files;
import java.nio.file.Path;
import java.util.ArrayList;
import java.util.Arrays;
import java.util.Collections;
import java.util.HashSet;
import java.util.List;
import java.util.Set;
import java.util.regex.Matcher;
import java.util.regex.Pattern;

/** The class has the document's face and no other, and keeps to what of LANGUAGE.md a search can tell. */
public final class FaceTest {
    private static final Path SOURCE = Path.of("src/main/java/KanbanLoop.java");
    private static final Path DOCUMENT = Path.of("../shared/DOC.md");
    private static final String[] FORBIDDEN = {
        "\\bimport\\b", "\\bpackage\\b", "->", "::", "\\bcatch\\b", "\\btry\\b", "\\bfinally\\b", "\\bsynchronized\\b",
        "\\bassert\\b", "\\bfloat\\b", "\\bdouble\\b", "Exact\\b", "\\bSystem\\.(?!arraycopy)", "\\bRandom\\b",
        "\\bThread\\b", "\\bequals\\b", "\\bhashCode\\b", "\\btoString\\b", "\\bObject\\b", "\\bstatic\\s*\\{",
        "\"\\s*\\+", "\\+\\s*\"",
    };

    private final Checks checks = new Checks();

    public static void main(String[] args) throws IOException {
        FaceTest test = new FaceTest();
        test.faceIsTheDocuments();
        test.nothingElseIsOpen(KanbanLoop.class);
        test.namesAreApart();
        test.sourceKeepsToTheLanguage();
        test.checks.close();
    }

    private void faceIsTheDocuments() throws IOException {
        List<String> due = new ArrayList<>();
        String text = Files.readString(DOCUMENT, StandardCharsets.UTF_8);
        Matcher face = Pattern.compile("(?m)^    public (\\w+) (\\w+)\\((.*?)\\)(?: throws (.*))?;$").matcher(text);
        while (face.find()) {
            String types = face.group(3).replaceAll("(\\w+) \\w+", "$1");
            due.add(line(face.group(1), face.group(2), types, face.group(4) == null ? "" : face.group(4)));
        }
        List<String> got = new ArrayList<>();
        for (Method method : KanbanLoop.class.getDeclaredMethods()) {
            if (Modifier.isPublic(method.getModifiers())) {
                got.add(line(method.getReturnType().getSimpleName(), method.getName(),
                        names(method.getParameterTypes()), names(method.getExceptionTypes())));
                checks.isTrue(method + " is not static", !Modifier.isStatic(method.getModifiers()));
            }
        }
        Collections.sort(due);
        Collections.sort(got);
        checks.same("the number of calls", due.size(), 29);
        checks.same("the face", String.join("\n", got), String.join("\n", due));
        checks.isTrue("the class is public and final", Modifier.isPublic(KanbanLoop.class.getModifiers())
                && Modifier.isFinal(KanbanLoop.class.getModifiers()));
    }

    private static String line(String type, String name, String types, String thrown) {
        return type + " " + name + "(" + types + ") throws " + thrown;
    }

    private static String names(Class<?>[] types) {
        List<String> names = new ArrayList<>();
        for (Class<?> type : types) {
            names.add(type.getSimpleName());
        }
        return String.join(", ", names);
    }

    private void nothingElseIsOpen(Class<?> type) {
        Constructor<?>[] made = type.getDeclaredConstructors();
        checks.same("constructors", made.length, 1);
        checks.isTrue("it is public and takes nothing",
                Modifier.isPublic(made[0].getModifiers()) && made[0].getParameterCount() == 0);
        for (Field field : type.getDeclaredFields()) {
            checks.isTrue(field + " is private", Modifier.isPrivate(field.getModifiers()));
            checks.isTrue(field + " is final if static",
                    !Modifier.isStatic(field.getModifiers()) || Modifier.isFinal(field.getModifiers()));
        }
        for (Method method : type.getDeclaredMethods()) {
            checks.isTrue(method + " is public or private",
                    Modifier.isPublic(method.getModifiers()) || Modifier.isPrivate(method.getModifiers()));
        }
        for (Class<?> inside : type.getDeclaredClasses()) {
            checks.isTrue(inside + " is private and static",
                    Modifier.isPrivate(inside.getModifiers()) && Modifier.isStatic(inside.getModifiers()));
        }
    }

    /** Rule 1: no private method bears the name of a public one, in the classes inside neither. */
    private void namesAreApart() {
        Set<String> open = new HashSet<>();
        List<Method> hidden = new ArrayList<>();
        for (Method method : KanbanLoop.class.getDeclaredMethods()) {
            if (Modifier.isPublic(method.getModifiers())) {
                open.add(method.getName());
            } else {
                hidden.add(method);
            }
        }
        for (Class<?> inside : KanbanLoop.class.getDeclaredClasses()) {
            hidden.addAll(Arrays.asList(inside.getDeclaredMethods()));
        }
        for (Method method : hidden) {
            checks.isTrue(method + " has a name of its own", !open.contains(method.getName()));
            checks.isTrue(method + " takes seven at most", method.getParameterCount() <= 7);
        }
    }

    private void sourceKeepsToTheLanguage() throws IOException {
        String text = Files.readString(SOURCE, StandardCharsets.UTF_8);
        String code = text.replaceAll("(?s)/\\*.*?\\*/", "").replaceAll("//[^\n]*", "");
        for (String word : FORBIDDEN) {
            checks.isTrue("the source has " + word, !Pattern.compile(word).matcher(code).find());
        }
        checks.isTrue("the source is plain ASCII", text.chars().allMatch(c -> c == '\n' || c >= ' ' && c < 127));
    }
}
