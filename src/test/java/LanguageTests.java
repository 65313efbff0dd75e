import java.io.IOException;
import java.lang.reflect.Method;
import java.lang.reflect.Modifier;
import java.nio.file.Files;
import java.nio.file.Path;
import java.util.HashSet;
import java.util.Set;
import java.util.regex.Matcher;
import java.util.regex.Pattern;

/** The rules of ../shared/LANGUAGE.md that can be seen in the source, and the document's face. */
public final class LanguageTests {
    private static final String[] FORBIDDEN = {
        "\\bimport\\b", "\\bpackage\\b", "->", "::", "\\btry\\b", "\\bcatch\\b", "\\bfinally\\b",
        "\\bsynchronized\\b", "\\bassert\\b", "Exact\\s*\\(", "\\bstatic\\s*\\{", "\\bprotected\\b",
        "\\bSystem\\.(?!arraycopy)", "\\bObject\\b", "\\btransient\\b|\\bvolatile\\b|\\bnative\\b",
    };
    private static int passed = 0;
    private static int failed = 0;

    public static void main(String[] args) throws IOException {
        String source = Files.readString(Path.of(args[0]));
        String code = source.replaceAll("(?s)/\\*.*?\\*/", " ").replaceAll("//[^\n]*", " ");
        String plain = code.replaceAll("\"[^\"]*\"", "\"\"");
        for (String forbidden : FORBIDDEN) {
            check(!Pattern.compile(forbidden).matcher(plain).find(), "forbidden: " + forbidden);
        }
        checkThrows(plain);
        checkStatics(plain);
        checkFace(code, Files.readString(Path.of(args[1])));
        checkNames();
        System.out.println("LanguageTests: " + passed + " passed, " + failed + " failed");
        if (failed > 0) {
            System.exit(1);
        }
    }

    private static void check(boolean holds, String what) {
        if (holds) {
            passed++;
        } else {
            failed++;
            System.out.println(what);
        }
    }

    private static void checkThrows(String plain) {
        Matcher thrown = Pattern.compile("\\bthrow\\b[^;]*;").matcher(plain);
        String due = "throw new (IllegalState|IllegalArgument|IndexOutOfBounds)Exception\\(\"\"\\);";
        while (thrown.find()) {
            check(thrown.group().matches(due), "rule 6: " + thrown.group());
        }
    }

    private static void checkStatics(String plain) {
        Matcher field = Pattern.compile("\\bstatic\\b[^(){}]*[;=]").matcher(plain);
        while (field.find()) {
            check(field.group().contains("final"), "rule 5: " + field.group());
        }
    }

    /** Each line of the document's code block stands in the source, and no other public member. */
    private static void checkFace(String code, String document) {
        int start = document.indexOf("```java") + 7;
        String block = document.substring(start, document.indexOf("```", start));
        String packed = code.replaceAll("\\s+", " ");
        int faces = 0;
        for (String line : block.split("\n")) {
            String face = line.strip().replaceAll("[;{]$", "").strip();
            if (face.startsWith("public")) {
                faces++;
                check(packed.contains(face + " {"), "the document's face lacks: " + face);
            }
        }
        check(faces == 23, "the document's face has " + faces + " lines");
        int publics = packed.split("\\bpublic ", -1).length - 1;
        check(publics == faces, "public members: " + publics);
        check(TableWright.class.getConstructors().length == 1, "one constructor");
        check(TableWright.class.getFields().length == 0, "no public fields");
    }

    private static void checkNames() {
        Set<String> face = new HashSet<>();
        for (Method method : TableWright.class.getDeclaredMethods()) {
            if (Modifier.isPublic(method.getModifiers())) {
                face.add(method.getName());
            }
        }
        for (Method method : TableWright.class.getDeclaredMethods()) {
            boolean isPrivate = Modifier.isPrivate(method.getModifiers());
            check(isPrivate || Modifier.isPublic(method.getModifiers()), "rule 1: " + method);
            check(!isPrivate || !face.contains(method.getName()), "rule 1: " + method);
        }
        for (Class<?> inside : TableWright.class.getDeclaredClasses()) {
            check(Modifier.isStatic(inside.getModifiers()), "rule 1: " + inside);
            check(inside.getDeclaredFields().length <= 20, "rule 11: " + inside);
            for (Method method : inside.getDeclaredMethods()) {
                check(!face.contains(method.getName()), "rule 1: " + method);
            }
        }
        check(TableWright.class.getDeclaredClasses().length <= 12, "rule 11: too many classes");
    }
}
