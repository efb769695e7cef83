import java.io.IOException;
import java.lang.reflect.Constructor;
import java.lang.reflect.Field;
import java.lang.reflect.Method;
import java.lang.reflect.Modifier;
import java.nio.charset.StandardCharsets;
import java.nio.file.Files;
import java.nio.file.Path;
import java.util.Set;
import java.util.TreeSet;
import java.util.regex.Matcher;
import java.util.regex.Pattern;

/** The public face as the document writes it, and what LANGUAGE.md asks for that can be seen from outside. */
public final class FaceTest {
    private static final Path DOCUMENT = Path.of("../shared/DOC.md");
    private static final Path SOURCE = Path.of("src/main/java/HomeworkBarter.java");

    public static void main(String[] args) throws IOException {
        faceIsThatOfTheDocument();
        nothingElseIsOpen();
        classesInside();
        wordsOfTheSource();
        Check.end();
    }

    private static String names(Class<?>[] types) {
        StringBuilder all = new StringBuilder();
        for (Class<?> type : types) all.append(all.length() == 0 ? "" : ", ").append(type.getSimpleName());
        return all.toString();
    }

    private static void faceIsThatOfTheDocument() throws IOException {
        String document = Files.readString(DOCUMENT, StandardCharsets.UTF_8);
        int start = document.indexOf("```java");
        String face = document.substring(start, document.indexOf("```", start + 7));
        Matcher m = Pattern.compile("public (\\w+) (\\w+)\\(([^)]*)\\)(?: throws ([\\w, ]+))?;").matcher(face);
        Set<String> due = new TreeSet<>();
        while (m.find()) {
            String types = m.group(3).replaceAll("(\\w+) \\w+", "$1");
            due.add(m.group(1) + " " + m.group(2) + "(" + types + ") " + (m.group(4) == null ? "" : m.group(4)));
        }
        Set<String> got = new TreeSet<>();
        for (Method method : HomeworkBarter.class.getDeclaredMethods()) {
            if (!Modifier.isPublic(method.getModifiers())) continue;
            got.add(method.getReturnType().getSimpleName() + " " + method.getName() + "("
                + names(method.getParameterTypes()) + ") " + names(method.getExceptionTypes()));
        }
        Check.due("methods that the document has", 52, due.size());
        Check.due("public methods", due.toString(), got.toString());
    }

    private static void nothingElseIsOpen() {
        Class<?> face = HomeworkBarter.class;
        Check.due("public and final", true,
            Modifier.isPublic(face.getModifiers()) && Modifier.isFinal(face.getModifiers()));
        Check.due("constructors", 1, face.getDeclaredConstructors().length);
        for (Constructor<?> c : face.getDeclaredConstructors()) {
            Check.due("the constructor is public", true, Modifier.isPublic(c.getModifiers()));
            Check.due("parameters of the constructor", 0, c.getParameterCount());
        }
        for (Field field : face.getDeclaredFields()) {
            boolean isNone = field.getName().equals("NONE");
            boolean isRight = isNone ? Modifier.isPublic(field.getModifiers()) : Modifier.isPrivate(field.getModifiers());
            Check.due("access of the field " + field.getName(), true, isRight);
        }
        Set<String> open = new TreeSet<>();
        for (Method method : face.getDeclaredMethods()) {
            if (Modifier.isPublic(method.getModifiers())) open.add(method.getName());
        }
        dueOtherNames(face, open);
        for (Class<?> inside : face.getDeclaredClasses()) dueOtherNames(inside, open);
    }

    private static void dueOtherNames(Class<?> one, Set<String> open) {
        for (Method method : one.getDeclaredMethods()) {
            if (Modifier.isPublic(method.getModifiers())) continue;
            String name = one.getSimpleName() + "." + method.getName();
            Check.due(name + " bears the name of a public method", false, open.contains(method.getName()));
            if (one == HomeworkBarter.class) {
                Check.due(name + " is private", true, Modifier.isPrivate(method.getModifiers()));
            }
        }
    }

    private static void classesInside() {
        Class<?>[] inside = HomeworkBarter.class.getDeclaredClasses();
        Check.due("at most twelve classes", true, inside.length < 12);
        for (Class<?> one : inside) {
            String name = one.getSimpleName();
            Check.due(name + " is private and static", true,
                Modifier.isPrivate(one.getModifiers()) && Modifier.isStatic(one.getModifiers()));
            dueFewFields(one);
        }
        dueFewFields(HomeworkBarter.class);
    }

    private static void dueFewFields(Class<?> one) {
        int fields = 0;
        for (Field field : one.getDeclaredFields()) {
            if (!Modifier.isStatic(field.getModifiers())) {
                fields++;
                continue;
            }
            Check.due(field.getName() + " is a constant", true, Modifier.isFinal(field.getModifiers()));
        }
        Check.due(one.getSimpleName() + " has at most twenty fields", true, fields <= 20);
        for (Method method : one.getDeclaredMethods()) {
            Check.due(method.getName() + " has at most seven parameters", true, method.getParameterCount() <= 7);
        }
    }

    private static void wordsOfTheSource() throws IOException {
        String source = Files.readString(SOURCE, StandardCharsets.UTF_8);
        String code = source.replaceAll("(?s)/\\*.*?\\*/", "").replaceAll("//[^\n]*", "");
        String[] banned = {"->", "::", "\\bimport\\b", "\\bpackage\\b", "\\bcatch\\b", "\\btry\\b", "\\bfinally\\b",
            "\\bsynchronized\\b", "\\bassert\\b", "\\binstanceof\\b", "\\bvar\\b", "static \\{",
            "@Override", "\\bnull\\b", "toString", "Exact\\("};
        for (String word : banned) {
            Check.due("the source holds " + word, false, Pattern.compile(word).matcher(code).find());
        }
        int longest = 0;
        int begin = 0;
        String[] lines = source.split("\n");
        for (int i = 0; i < lines.length; i++) {
            if (lines[i].matches(" {4,8}[a-z].*\\) ?(throws .*)?\\{")) begin = i;
            if (lines[i].matches(" {4}( {4})?\\}")) longest = Math.max(longest, i - begin + 1);
        }
        Check.due("the longest method has at most sixty lines", true, longest <= 60);
        for (String line : lines) {
            boolean isMade = line.matches(".*\\bnew\\b.*") && !line.contains("throw new");
            boolean isInConstructor = line.contains("final ") || line.matches(" +(for \\(.*\\) )?\\w+(\\[\\w+\\])? = new .*");
            if (isMade && !isInConstructor) Check.tell("a call makes an object: " + line);
        }
        for (char sign : source.toCharArray()) {
            if (sign > 126 || sign < 32 && sign != '\n') Check.tell("the source holds the sign " + (int) sign);
        }
    }
}
