import java.io.File;
import java.lang.reflect.Method;
import java.lang.reflect.Modifier;
import java.net.URL;
import java.net.URLClassLoader;
import java.nio.file.Files;
import java.nio.file.Path;
import java.nio.file.attribute.PosixFilePermission;
import java.util.ArrayList;
import java.util.HashSet;
import java.util.List;
import java.util.Set;
import java.util.regex.Matcher;
import java.util.regex.Pattern;

/**
 * README.md as it stands in the folder that the test runs in: its blocks of Java are compiled and run line by
 * line, each call answers what stands behind it, and its commands end well.
 */
public final class ReadmeTest {
    private static final Check CHECK = new Check();
    private static final String NAME = "ReadmeCalls";
    private static final Pattern CALL = Pattern.compile("(\\w+\\.(\\w+)\\(.*\\));(?: *// *(.*))?");

    // What stands behind a call begins with its answer; words of explanation follow a colon.
    private static final Pattern ANSWER = Pattern.compile("(throws \\w+|[^ :]+)(:.*)?");

    private static List<List<String>> blocks(List<String> lines, String language) {
        List<List<String>> all = new ArrayList<>();
        List<String> block = null;
        for (String line : lines) {
            if (block != null && line.equals("```")) {
                all.add(block);
                block = null;
            } else if (block != null) {
                block.add(line);
            } else if (line.equals("```" + language)) {
                block = new ArrayList<>();
            }
        }
        CHECK.due("README.md has a block of " + language + ", and each ends", !all.isEmpty() && block == null, true);
        return all;
    }

    private static boolean answersNothing(String method) {
        for (Method m : MoveList.class.getMethods()) {
            if (m.getName().equals(method)) {
                return m.getReturnType() == void.class;
            }
        }
        return false;
    }

    /** A class whose method returns the answers of all calls of a block, in their order. */
    private static String source(List<String> block) {
        StringBuilder all = new StringBuilder("public final class " + NAME + " {\n");
        all.append("public static java.util.List<String> answers() {\n");
        all.append("java.util.List<String> all = new java.util.ArrayList<>();\n");
        for (String line : block) {
            Matcher call = CALL.matcher(line);
            if (!call.matches()) {
                all.append(line).append('\n');
                continue;
            }
            String asked = call.group(1);
            boolean nothing = answersNothing(call.group(2));
            all.append("try { ").append(nothing ? asked + "; all.add(\"done\");" : "all.add(\"\" + " + asked + ");");
            all.append(" } catch (RuntimeException e) { all.add(\"throws \" + e.getClass().getSimpleName()); }\n");
        }
        return all.append("return all;\n}\n}\n").toString();
    }

    /** The exit code of a command; what it leaves behind goes to a folder that is removed. */
    private static int ended(Path out, String... command) throws Exception {
        ProcessBuilder process = new ProcessBuilder(command).inheritIO();
        process.environment().put("TMPDIR", out.toString());
        return process.start().waitFor();
    }

    private static List<?> answers(List<String> block, Path out) throws Exception {
        Path file = Files.writeString(out.resolve(NAME + ".java"), source(block));
        String path = System.getProperty("java.class.path");
        int failed = ended(out, "javac", "-cp", path, "-d", out.toString(), file.toString());
        CHECK.due("README.md's calls compile", failed, 0);
        if (failed != 0) {
            return List.of();
        }
        try (URLClassLoader loader = new URLClassLoader(new URL[] {out.toUri().toURL()})) {
            return (List<?>) loader.loadClass(NAME).getMethod("answers").invoke(null);
        }
    }

    private static String due(String method, String behind) {
        Matcher answer = ANSWER.matcher(behind == null ? "" : behind);
        boolean told = answer.matches();
        if (answersNothing(method)) {
            return told && answer.group(1).startsWith("throws ") ? answer.group(1) : "done";
        }
        return told ? answer.group(1) : "an answer, which README.md must tell";
    }

    private static void calls(List<String> readme, Path out) throws Exception {
        Set<String> shown = new HashSet<>();
        for (List<String> block : blocks(readme, "java")) {
            List<?> got = answers(block, out);
            int i = 0;
            for (String line : block) {
                Matcher call = CALL.matcher(line);
                if (call.matches() && i < got.size()) {
                    CHECK.due("README.md: " + call.group(1), got.get(i), due(call.group(2), call.group(3)));
                    shown.add(call.group(2));
                    i++;
                }
            }
            CHECK.due("answers looked at", i, got.size());
        }
        for (Method m : MoveList.class.getDeclaredMethods()) {
            if (Modifier.isPublic(m.getModifiers())) {
                CHECK.due("README.md shows " + m.getName(), shown.contains(m.getName()), true);
            }
        }
    }

    /** All commands but .ci/run, which is what runs this test. */
    private static void commands(List<String> readme, Path out) throws Exception {
        boolean named = false;
        for (List<String> block : blocks(readme, "sh")) {
            if (block.equals(List.of(".ci/run"))) {
                named = true;
                Set<PosixFilePermission> may = Files.getPosixFilePermissions(Path.of(".ci/run"));
                CHECK.due(".ci/run can be run", may.contains(PosixFilePermission.OWNER_EXECUTE), true);
                continue;
            }
            CHECK.due("README.md: " + block, ended(out, "sh", "-e", "-c", String.join("\n", block)), 0);
        }
        CHECK.due("README.md names .ci/run", named, true);
    }

    private static void remove(File file) {
        File[] inside = file.listFiles();
        if (inside != null) {
            for (File f : inside) {
                remove(f);
            }
        }
        file.delete();
    }

    public static void main(String[] args) throws Exception {
        Path out = Files.createTempDirectory("readme");
        try {
            List<String> readme = Files.readAllLines(Path.of("README.md"));
            calls(readme, out);
            commands(readme, out);
        } finally {
            remove(out.toFile());
        }
        CHECK.end();
    }
}
