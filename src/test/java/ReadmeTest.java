import java.lang.reflect.Method;
import java.lang.reflect.Modifier;
import java.net.URL;
import java.net.URLClassLoader;
import java.nio.charset.StandardCharsets;
import java.nio.file.Files;
import java.nio.file.Path;
import java.util.ArrayList;
import java.util.List;
import java.util.regex.Matcher;
import java.util.regex.Pattern;

/** README.md tells every call, and its lines of Java answer what stands behind them. */
public final class ReadmeTest {
    private static final Pattern BLOCK = Pattern.compile("(?s)```java\n(.*?)```");
    // A call as a statement of its own, and what it answers if that is told.
    private static final Pattern CALL = Pattern.compile("(?ms)^(x\\.\\w+\\(.*?\\));(?:[ ]*// (-?\\d+|true|false)\\b[^\n]*)?$");

    public static void main(String[] args) throws Exception {
        String page = Files.readString(Path.of("README.md"), StandardCharsets.UTF_8);
        tellsAllCalls(page);
        answersAsTold(page);
        Check.end();
    }

    private static void tellsAllCalls(String page) {
        for (Method m : NineNames.class.getDeclaredMethods()) {
            if (Modifier.isPublic(m.getModifiers())) {
                Matcher told = Pattern.compile("`" + m.getName() + "\\(([^)]*)\\)`").matcher(page);
                boolean found = false;
                while (told.find()) {
                    String with = told.group(1);
                    found |= (with.isEmpty() ? 0 : with.split(",").length) == m.getParameterCount();
                }
                Check.due("README.md tells " + m.getName(), found, true);
            }
        }
    }

    /** The first block is a method, the others are what one object is asked in a row. */
    private static void answersAsTold(String page) throws Exception {
        StringBuilder method = new StringBuilder();
        StringBuilder body = new StringBuilder();
        Matcher block = BLOCK.matcher(page);
        while (block.find()) {
            (method.length() == 0 ? method : body).append(block.group(1));
        }
        List<String> calls = new ArrayList<>();
        List<String> wanted = new ArrayList<>();
        Matcher call = CALL.matcher(body);
        while (call.find()) {
            calls.add(call.group(1));
            wanted.add(call.group(2));
        }
        Check.due("README.md has lines to run, " + calls.size(), calls.size() >= 40, true);
        String source = "public class Example {\n" + method
                + "public static void run(java.util.List<Object> said) {\n"
                + call.replaceAll("said.add($1);") + "}\n}\n";
        List<Object> said = new ArrayList<>();
        run(source, said);
        Check.due("answers", said.size(), calls.size());
        for (int k = 0; k < said.size() && k < calls.size(); k++) {
            if (wanted.get(k) != null) {
                String got = said.get(k).toString();
                Check.due("README.md: " + calls.get(k) + " answered " + got + " for " + wanted.get(k),
                        got.equals(wanted.get(k)), true);
            }
        }
    }

    private static void run(String source, List<Object> said) throws Exception {
        Path out = Files.createTempDirectory("readme");
        Path file = out.resolve("Example.java");
        Path made = out.resolve("Example.class");
        try {
            Files.writeString(file, source, StandardCharsets.UTF_8);
            // The command that .ci/run needs anyway, as a java of its own may come without a compiler.
            int code = new ProcessBuilder("javac", "-cp", System.getProperty("java.class.path"), "-d", out.toString(),
                    file.toString()).inheritIO().start().waitFor();
            Check.due("README.md compiles", code, 0);
            if (code == 0) {
                try (URLClassLoader loader = new URLClassLoader(new URL[] {out.toUri().toURL()})) {
                    loader.loadClass("Example").getMethod("run", List.class).invoke(null, said);
                }
            }
        } finally {
            Files.deleteIfExists(file);
            Files.deleteIfExists(made);
            Files.deleteIfExists(out);
        }
    }
}
