import java.lang.reflect.Constructor;
import java.lang.reflect.Field;
import java.lang.reflect.Method;
import java.lang.reflect.Modifier;
import java.nio.file.Files;
import java.nio.file.Path;
import java.util.Set;
import java.util.TreeSet;
import java.util.regex.Matcher;
import java.util.regex.Pattern;

/** The public face as the document's own code block tells it, and those rules of the language that can be seen from outside. */
public final class FaceTest {
    private static final Path DOCUMENT = Path.of("../shared/DOC.md");

    private static int wrong = 0;

    private static void must(String what, boolean so) {
        if (!so) {
            wrong++;
            System.out.println("not so: " + what);
        }
    }

    /** The methods of the document's code block, a name and its types each. */
    private static Set<String> toldByTheDocument(String document) {
        Set<String> all = new TreeSet<>();
        Matcher block = Pattern.compile("```java\n(.*?)```", Pattern.DOTALL).matcher(document);
        Matcher method = Pattern.compile("public int (\\w+)\\((.*?)\\);").matcher(block.find() ? block.group(1) : "");
        while (method.find()) {
            all.add((method.group(1) + " " + method.group(2).replaceAll("(\\w+) \\w+,? ?", "$1 ")).trim());
        }
        must("31 methods are told: " + all, all.size() == 31);
        return all;
    }

    private static String told(Method method) {
        StringBuilder text = new StringBuilder(method.getName());
        for (Class<?> type : method.getParameterTypes()) {
            text.append(' ').append(type.getName());
        }
        return text.toString();
    }

    private static void face(Class<?> face, Set<String> told) {
        must("public and final", Modifier.isPublic(face.getModifiers()) && Modifier.isFinal(face.getModifiers()));
        Set<String> found = new TreeSet<>();
        Set<String> names = new TreeSet<>();
        for (Method method : face.getDeclaredMethods()) {
            if (Modifier.isPublic(method.getModifiers())) {
                found.add(told(method));
                names.add(method.getName());
                must(method + " answers an int", method.getReturnType() == int.class);
                must(method + " is of the object", !Modifier.isStatic(method.getModifiers()));
            }
        }
        must("the methods of the document: " + found, found.equals(told));
        Constructor<?>[] made = face.getDeclaredConstructors();
        must("one public constructor", made.length == 1 && Modifier.isPublic(made[0].getModifiers())
                && made[0].getParameterCount() == 0);
        for (Method method : face.getDeclaredMethods()) {
            must(method + " is public or private", Modifier.isPublic(method.getModifiers())
                    || Modifier.isPrivate(method.getModifiers()));
            must(method + " has a name of its own", Modifier.isPublic(method.getModifiers())
                    || !names.contains(method.getName()));
        }
        for (Field field : face.getDeclaredFields()) {
            must(field + " is private", Modifier.isPrivate(field.getModifiers()));
        }
    }

    private static void inside(Class<?> owner) {
        int fields = 0;
        for (Field field : owner.getDeclaredFields()) {
            boolean isStatic = Modifier.isStatic(field.getModifiers());
            must(field + " is final, if static", !isStatic || Modifier.isFinal(field.getModifiers()));
            fields += isStatic ? 0 : 1;
        }
        must(owner + " has at most twenty fields", fields <= 20);
        for (Method method : owner.getDeclaredMethods()) {
            must(method + " takes at most seven", method.getParameterCount() <= 7);
        }
    }

    private static void source(String text) {
        String bare = Pattern.compile("/\\*.*?\\*/|//[^\n]*", Pattern.DOTALL).matcher(text).replaceAll(" ");
        String words = "\\b(throw|throws|try|catch|finally|synchronized|assert|native|volatile|transient|yield|System"
                + "|Object|Random|Thread|var)\\b|->|::|@|\"";
        Matcher m = Pattern.compile(words).matcher(bare);
        must("no word that the language leaves out", !m.find());
        Matcher imports = Pattern.compile("import ([^;]+);").matcher(bare);
        while (imports.find()) {
            must("import " + imports.group(1), imports.group(1).equals("java.util.ArrayList")
                    || imports.group(1).equals("java.util.Arrays"));
        }
        must("no package", !bare.contains("package "));
        int line = 0;
        for (char c : text.toCharArray()) {
            line = c == '\n' ? 0 : line + 1;
            must("a sign of 1 to 126", c == '\n' || c >= 32 && c < 127);
            must("a line that can be read", line <= 120);
        }
    }

    public static void main(String[] args) throws Exception {
        Class<?> face = HoldWorlds.class;
        face(face, toldByTheDocument(Files.readString(DOCUMENT)));
        inside(face);
        must("at most twelve classes", face.getDeclaredClasses().length < 12);
        for (Class<?> one : face.getDeclaredClasses()) {
            must(one + " is static", Modifier.isStatic(one.getModifiers()));
            must(one + " is private", Modifier.isPrivate(one.getModifiers()));
            inside(one);
        }
        source(Files.readString(Path.of("src/main/java/HoldWorlds.java")));
        System.out.println(wrong == 0 ? "the face is as told" : wrong + " things are not as told");
        if (wrong != 0) {
            System.exit(1);
        }
    }
}
