import java.io.IOException;
import java.lang.reflect.Method;
import java.lang.reflect.Modifier;
import java.net.URL;
import java.net.URLClassLoader;
import java.nio.file.Files;
import java.nio.file.Path;
import java.util.ArrayList;
import java.util.List;
import java.util.regex.Matcher;
import java.util.regex.Pattern;
import javax.tools.JavaCompiler;
import javax.tools.ToolProvider;

/** README.md: its Java answers what it tells, what it quotes stands in the document, each call is named. */
public final class ReadmeTests extends Checks {
    private static final List<String> EXAMPLES = new ArrayList<>();
    private static final StringBuilder PROSE = new StringBuilder();

    /** README.md, the document, and a directory for what is compiled. */
    public static void main(String[] args) throws Exception {
        readPage(Path.of(args[0]));
        quotes(documentAt(args[1]));
        calls();
        parts();
        examples(Files.createDirectories(Path.of(args[2])));
        finish("ReadmeTests");
    }

    private static void readPage(Path path) throws IOException {
        boolean isJava = false;
        boolean isOther = false;
        for (String line : Files.readAllLines(path)) {
            if (line.startsWith("```")) {
                isOther = !isJava && !isOther && !line.equals("```java");
                isJava = line.equals("```java");
            } else if (isJava) {
                EXAMPLES.add(line);
            } else if (!isOther) {
                PROSE.append(line).append(' ');
            }
        }
    }

    // ---- what it says

    private static void quotes(String document) {
        part = "what README.md quotes";
        Matcher quote = Pattern.compile("\"([^\"]*)\"").matcher(PROSE);
        int quotes = 0;
        while (quote.find()) {
            String words = quote.group(1).replaceAll("\\s+", " ");
            due("whether the document says: " + words, true, document.contains(words));
            quotes++;
        }
        due("whether it quotes", true, quotes > 30);
    }

    private static void calls() {
        part = "the calls that README.md names";
        for (Method method : TableWright.class.getDeclaredMethods()) {
            if (Modifier.isPublic(method.getModifiers())) {
                String call = method.getName() + "(";
                due("whether it tells of " + call, true, PROSE.indexOf("| `" + call) >= 0);
                due("whether it shows " + call, true, method.getName().equals("digest")
                        || String.join("\n", EXAMPLES).contains("." + call));
            }
        }
    }

    private static void parts() {
        part = "the parts of README.md";
        int at = -1;
        for (String heading : new String[] {"## How to use the class", "### A new table", "### What is set",
                "### What is asked", "### The units", "### The exceptions", "### A table that is not laid out",
                "## How to run its tests"}) {
            int next = PROSE.indexOf(heading + " ");
            due("whether this stands there, in its order: " + heading, true, next > at);
            at = next;
        }
    }

    // ---- what its Java answers

    private static void examples(Path directory) throws Exception {
        part = "the Java of README.md";
        Path source = directory.resolve("ReadmeExample.java");
        Files.writeString(source, exampleSource());
        JavaCompiler compiler = ToolProvider.getSystemJavaCompiler();
        due("whether there is a compiler", true, compiler != null);
        int code = compiler == null ? 1 : compiler.run(null, null, null, "-encoding", "UTF-8",
                "-classpath", System.getProperty("java.class.path"), "-d", directory.toString(), source.toString());
        due("whether it compiles", 0, code);
        if (code == 0) {
            try (URLClassLoader loader = new URLClassLoader(new URL[] {directory.toUri().toURL()})) {
                compare((Object[][]) loader.loadClass("ReadmeExample").getMethod("answers").invoke(null));
            }
        }
    }

    private static void compare(Object[][] answers) {
        int told = 0;
        for (String line : EXAMPLES) {
            told += line.contains("//") ? 1 : 0;
        }
        due("lines that tell an answer", told, answers.length);
        for (Object[] answer : answers) {
            due((String) answer[0], answer[1], answer[2]);
        }
    }

    /** A class that makes the calls line by line, and keeps each line, what it tells, and what was answered. */
    private static String exampleSource() {
        StringBuilder code = new StringBuilder("import java.util.ArrayList;\nimport java.util.List;\n");
        code.append("public final class ReadmeExample {\n  public static Object[][] answers() {\n");
        code.append("    List<Object[]> all = new ArrayList<>();\n");
        for (String line : EXAMPLES) {
            code.append(codeOf(line.strip())).append('\n');
        }
        return code.append("    return all.toArray(new Object[0][]);\n  }\n}\n").toString();
    }

    private static String codeOf(String line) {
        Matcher told = Pattern.compile("(?:int (\\w+) = )?([^;]*);\\s*// (.*)").matcher(line);
        if (!told.matches()) {
            return line;
        }
        String call = told.group(2);
        String start = "all.add(new Object[] {\"" + call + "\", \"" + told.group(3) + "\", ";
        if (told.group(3).startsWith("throws ")) {
            return "try { " + call + "; " + start + "\"nothing\"}); } catch (RuntimeException e) { "
                    + start + "\"throws \" + e.getClass().getSimpleName()}); }";
        }
        if (told.group(1) != null) {
            return "int " + told.group(1) + " = " + call + "; " + start + "\"\" + " + told.group(1) + "});";
        }
        return start + "\"\" + " + call + "});";
    }
}
