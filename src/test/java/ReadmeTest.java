import java.io.File;
import java.io.IOException;
import java.lang.reflect.Method;
import java.lang.reflect.Modifier;
import java.nio.file.Files;
import java.nio.file.Path;
import java.util.ArrayList;
import java.util.List;
import java.util.regex.Matcher;
import java.util.regex.Pattern;

/** What README.md tells as a use of the class is so: its Java is made a program as it stands there, and run. */
public final class ReadmeTest {
    private static final Pattern BLOCK = Pattern.compile("```java\n(.*?)```", Pattern.DOTALL);
    private static final Pattern CALL = Pattern.compile("(\\S.*\\));\\s*// (-?\\d+)(?:[, ].*)?");
    private static final String NEW_OBJECT = "HoldWorlds x = new HoldWorlds();";

    private static final String PROGRAM_HEAD = String.join("\n",
            "public final class ReadmeUse {",
            "static int wrong = 0;",
            "static void due(String call, int got, int want) {",
            "    if (got != want) {",
            "        wrong++;",
            "        System.out.println(\"README.md: \" + call + \" answered \" + got + \", told is \" + want);",
            "    }",
            "}",
            "");

    private static int wrong = 0;

    private static void must(String what, boolean so) {
        if (!so) {
            wrong++;
            System.out.println("not so: " + what);
        }
    }

    private static List<String> blocks(String page) {
        List<String> all = new ArrayList<>();
        Matcher m = BLOCK.matcher(page);
        while (m.find()) {
            all.add(m.group(1));
        }
        return all;
    }

    /** A call and what is told behind it; a line that tells no answer would be a use that nothing tests. */
    private static String asTest(String line) {
        if (line.isBlank()) {
            return "";
        }
        Matcher m = CALL.matcher(line.trim());
        if (!m.matches()) {
            must("a call with its answer: " + line, false);
            return "";
        }
        String call = m.group(1);
        String shown = call.replace("\\", "\\\\").replace("\"", "\\\"");
        return "due(\"" + shown + "\", " + call + ", " + m.group(2) + ");\n";
    }

    /** A block without an object of its own goes on with that of the block ahead. */
    private static String program(List<String> blocks) {
        StringBuilder members = new StringBuilder(PROGRAM_HEAD);
        StringBuilder uses = new StringBuilder("public static void main(String[] args) {\n{\n");
        for (String block : blocks) {
            if (block.startsWith("static ")) {
                members.append(block);
                continue;
            }
            for (String line : block.split("\n")) {
                uses.append(line.trim().equals(NEW_OBJECT) ? "}\n{\n" + line + "\n" : asTest(line));
            }
        }
        return members.append(uses).append("}\nSystem.exit(wrong == 0 ? 0 : 1);\n}\n}\n").toString();
    }

    /** The program is compiled and run by one java of its own, so that it needs nothing of this test. */
    private static int run(String program) throws IOException, InterruptedException {
        Path place = Files.createTempDirectory("readme");
        Path file = place.resolve("ReadmeUse.java");
        try {
            Files.writeString(file, program);
            String java = System.getProperty("java.home") + File.separator + "bin" + File.separator + "java";
            return new ProcessBuilder(java, "-cp", System.getProperty("java.class.path"), file.toString())
                    .inheritIO().start().waitFor();
        } finally {
            Files.deleteIfExists(file);
            Files.deleteIfExists(place);
        }
    }

    private static void namesTheFace(String uses) {
        for (Method method : HoldWorlds.class.getDeclaredMethods()) {
            if (Modifier.isPublic(method.getModifiers())) {
                must("a use of " + method.getName(), uses.contains("x." + method.getName() + "("));
            }
        }
    }

    private static void namesTheTests(String page) {
        must("how the tests are run", page.contains(".ci/run"));
        String[] files = new File("src/test/java").list();
        must("there are tests", files != null && files.length > 0);
        for (String file : files == null ? new String[0] : files) {
            String name = file.replace(".java", "");
            must(name + " is named", !name.endsWith("Test") || page.contains("`" + name + "`"));
        }
    }

    public static void main(String[] args) throws Exception {
        String page = Files.readString(Path.of("README.md"));
        List<String> blocks = blocks(page);
        must("there are uses", !blocks.isEmpty());
        namesTheFace(String.join("\n", blocks));
        namesTheTests(page);
        must("each call answers what is told", run(program(blocks)) == 0);
        System.out.println(wrong == 0 ? "README.md is so" : wrong + " things of README.md are not so");
        if (wrong != 0) {
            System.exit(1);
        }
    }
}
