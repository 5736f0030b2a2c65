import java.io.IOException;
import java.lang.reflect.Array;
import java.net.URL;
import java.net.URLClassLoader;
import java.nio.charset.StandardCharsets;
import java.nio.file.Files;
import java.nio.file.Path;
import java.util.ArrayList;
import java.util.List;
import java.util.regex.Matcher;
import java.util.regex.Pattern;

/** The examples of README.md, compiled and run as one program, answer what stands behind their //. */
public final class ReadmeTest {
    private static final Pattern BLOCK = Pattern.compile("```java\n(.*?)```", Pattern.DOTALL);
    private static final Pattern LINE = Pattern.compile("(?:int (\\w+) = )?(.*);\\s*// (throws \\w+|[^:]+)(?:: .*)?");

    public static void main(String[] args) throws Exception {
        List<String> calls = new ArrayList<>();
        List<String> due = new ArrayList<>();
        String program = program(Files.readString(Path.of("README.md"), StandardCharsets.UTF_8), calls, due);
        Object answers = run(program);
        for (int i = 0; i < calls.size(); i++) {
            Check.due(calls.get(i), Array.get(answers, i), due.get(i));
        }
        Check.end("ReadmeTest");
    }

    private static String program(String readme, List<String> calls, List<String> due) {
        StringBuilder code = new StringBuilder("public final class ReadmeExamples {\n"
                + "public static String[] answers() {\njava.util.List<String> all = new java.util.ArrayList<>();\n");
        Matcher block = BLOCK.matcher(readme);
        while (block.find()) {
            for (String line : block.group(1).split("\n")) {
                Matcher parts = LINE.matcher(line);
                if (parts.matches()) {
                    calls.add(parts.group(2));
                    due.add(parts.group(3).trim());
                    code.append(checked(parts));
                } else {
                    code.append(line).append('\n');
                }
            }
        }
        return code.append("return all.toArray(new String[0]);\n}\n}\n").toString();
    }

    private static String checked(Matcher parts) {
        if (parts.group(1) != null) {
            return parts.group() + "\nall.add(String.valueOf(" + parts.group(1) + "));\n";
        }
        return "try { all.add(String.valueOf(" + parts.group(2) + ")); } catch (RuntimeException e) "
                + "{ all.add(\"throws \" + e.getClass().getSimpleName()); }\n";
    }

    private static Object run(String program) throws Exception {
        Path place = Files.createTempDirectory("readme");
        try {
            Path source = Files.writeString(place.resolve("ReadmeExamples.java"), program);
            String known = System.getProperty("java.class.path");
            int exit = new ProcessBuilder("javac", "-cp", known, "-d", place.toString(), source.toString())
                    .inheritIO().start().waitFor();
            Check.due("javac of the examples", exit, 0);
            try (URLClassLoader loader = new URLClassLoader(new URL[] {place.toUri().toURL()})) {
                return loader.loadClass("ReadmeExamples").getMethod("answers").invoke(null);
            }
        } finally {
            remove(place);
        }
    }

    private static void remove(Path place) throws IOException {
        for (String name : List.of("ReadmeExamples.java", "ReadmeExamples.class")) {
            Files.deleteIfExists(place.resolve(name));
        }
        Files.delete(place);
    }
}
