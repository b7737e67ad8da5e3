import java.io.IOException;
import java.lang.reflect.Constructor;
import java.lang.reflect.Field;
import java.lang.reflect.Method;
import java.lang.reflect.Modifier;
import java.nio.charset.StandardCharsets;
import java.nio.file.Files;
import java.nio.file.Path;
import java.util.ArrayList;
import java.util.Arrays;
import java.util.List;
import java.util.Set;
import java.util.TreeSet;
import java.util.regex.Matcher;
import java.util.regex.Pattern;

/** The face of the document, and those rules of LANGUAGE.md that can be read off the source and the class. */
public final class LanguageTest {
    private static final Path SOURCE = Path.of("src/main/java/SpentPasses.java");
    private static final Path DOCUMENT = Path.of("../shared/DOC.md");
    private static final String[] FACE = {
        "int write(int)", "int wipe()", "int fault()", "int desk()", "int user(int,int)", "int pass(int,int)",
        "int behind(int,int,int)", "int send(int)", "int miss(int)", "int attempt(int,int)", "int hear()",
        "int renew(int,int,int,int)", "int widen(int)", "int undo()", "int fits(int,int)", "int fitting(int,int)",
        "int thief(int)", "int heard(int)", "int judge(int,long)", "int see(int,int,int)", "int unsee()",
        "int which(int)", "int share(int,boolean)", "int guess(int,int,boolean)", "int loss(int,int,int,boolean)",
        "long seed(long)", "int drawn(int)", "int keep(int)", "int again(int)", "int count(int)"};
    private static final String[] CONSTANTS = {"UNKNOWN -1", "OUTSIDE -2", "STATE -3", "FULL -4", "NONE -9"};
    private static final String[] FORBIDDEN = {"\\bthrow\\b", "\\bthrows\\b", "\\btry\\b", "\\bcatch\\b", "\\bfinally\\b",
        "\\bsynchronized\\b", "\\bassert\\b", "->", "::", "\\bvar\\b", "Exact\\b", "\\bObject\\b", "\\bprotected\\b",
        "\\bpackage\\b", "\\bRandom\\b", "\\bThread\\b", "currentTimeMillis", "nanoTime", "System\\.out", "\\bMath\\.sqrt\\b"};
    private static int wrong = 0;

    public static void main(String[] args) throws IOException {
        face();
        fieldsAndMethods();
        String source = Files.readString(SOURCE, StandardCharsets.US_ASCII);
        source(source);
        if (Files.isReadable(DOCUMENT)) {
            document(Files.readString(DOCUMENT, StandardCharsets.UTF_8), source);
        } else {
            System.out.println("there is no " + DOCUMENT + ": the face was not compared with it");
        }
        System.out.println(wrong == 0 ? "the language is kept to" : wrong + " rules are broken");
        if (wrong != 0) {
            System.exit(1);
        }
    }

    private static void must(boolean holds, String rule) {
        if (!holds) {
            wrong++;
            System.out.println("broken: " + rule);
        }
    }

    private static void face() {
        Class<?> main = SpentPasses.class;
        must(Modifier.isFinal(main.getModifiers()) && Modifier.isPublic(main.getModifiers()), "public and final");
        Set<String> methods = new TreeSet<>();
        for (Method method : main.getDeclaredMethods()) {
            if (!Modifier.isPrivate(method.getModifiers())) {
                StringBuilder types = new StringBuilder();
                for (Class<?> type : method.getParameterTypes()) {
                    types.append(types.length() == 0 ? "" : ",").append(type.getName());
                }
                methods.add(method.getReturnType().getName() + " " + method.getName() + "(" + types + ")");
                must(method.getModifiers() == Modifier.PUBLIC, "a method of the face is public alone: " + method);
            }
        }
        must(methods.equals(new TreeSet<>(Arrays.asList(FACE))), "the face has just its methods, not " + methods);
        Set<String> constants = new TreeSet<>();
        for (Field field : main.getDeclaredFields()) {
            if (!Modifier.isPrivate(field.getModifiers())) {
                constants.add(field.getName() + " " + valueOf(field));
            }
        }
        must(constants.equals(new TreeSet<>(Arrays.asList(CONSTANTS))), "the face has just its constants, not " + constants);
        Constructor<?>[] constructors = main.getDeclaredConstructors();
        must(constructors.length == 1 && constructors[0].getParameterCount() == 0
            && Modifier.isPublic(constructors[0].getModifiers()), "one public constructor without arguments");
    }

    /** The face and its headings stand in the source in the document's own words, and in its order. */
    private static void document(String document, String source) {
        String block = document.substring(document.indexOf("```java\n"), document.indexOf("\n}\n```"));
        List<String> told = new ArrayList<>();
        Matcher heads = Pattern.compile("public ([^;{]*)[;{]").matcher(block);
        while (heads.find()) {
            told.add("public " + heads.group(1).trim());
        }
        must(told.size() == FACE.length + 3, "the document's face has a class, its constants, a constructor, its methods");
        inOrder(source, told);
        Matcher headings = Pattern.compile("Ahead of the calls `([a-z]+)`[^\n]* says: (---- [a-z, ]+)\\.").matcher(document);
        int groups = 0;
        while (headings.find()) {
            groups++;
            must(Pattern.compile("// " + headings.group(2) + "\n\n    public [a-z]+ " + headings.group(1) + "\\(")
                .matcher(source).find(), "ahead of " + headings.group(1) + ": " + headings.group(2));
        }
        must(groups == 6, "six headings");
    }

    private static void inOrder(String source, List<String> lines) {
        int from = 0;
        for (String line : lines) {
            int at = source.indexOf(line, from);
            must(at >= 0, "in the document's order: " + line);
            from = at < 0 ? from : at + line.length();
        }
    }

    private static String valueOf(Field field) {
        try {
            return Modifier.isStatic(field.getModifiers()) && Modifier.isFinal(field.getModifiers())
                && field.getType() == int.class ? String.valueOf(field.getInt(null)) : "is no constant";
        } catch (IllegalAccessException cannot) {
            return "can not be read";
        }
    }

    private static void fieldsAndMethods() {
        Set<String> faceNames = new TreeSet<>();
        for (String method : FACE) {
            faceNames.add(method.substring(method.indexOf(' ') + 1, method.indexOf('(')));
        }
        Class<?>[] inside = SpentPasses.class.getDeclaredClasses();
        must(inside.length < 12, "at most some twelve classes");
        Class<?>[] all = Arrays.copyOf(inside, inside.length + 1);
        all[inside.length] = SpentPasses.class;
        for (Class<?> one : all) {
            must(one == SpentPasses.class || Modifier.isStatic(one.getModifiers()) && !Modifier.isPublic(one.getModifiers()),
                "classes inside are static, and not public: " + one);
            int own = 0;
            for (Field field : one.getDeclaredFields()) {
                boolean fixed = Modifier.isStatic(field.getModifiers());
                own += fixed ? 0 : 1;
                must(!fixed || Modifier.isFinal(field.getModifiers()), "static fields are final: " + field);
                must(fixed || one != SpentPasses.class || Modifier.isPrivate(field.getModifiers()), "fields are private: " + field);
            }
            must(own <= 20, "some twenty fields: " + one);
            for (Method method : one.getDeclaredMethods()) {
                must(method.getParameterCount() <= 7, "at most seven parameters: " + method);
                must(Modifier.isPublic(method.getModifiers()) || !faceNames.contains(method.getName()),
                    "no other method bears the name of one of the face: " + method);
            }
        }
    }

    private static void source(String text) {
        String code = text.replaceAll("(?s)/\\*.*?\\*/", " ").replaceAll("//[^\n]*", " ");
        for (String word : FORBIDDEN) {
            must(!Pattern.compile(word).matcher(code).find(), "not in the language: " + word);
        }
        Matcher imports = Pattern.compile("import ([^;]*);").matcher(code);
        while (imports.find()) {
            must(List.of("java.util.Arrays", "java.util.ArrayList", "java.util.List").contains(imports.group(1)),
                "no other library: " + imports.group(1));
        }
        must(!Pattern.compile("\\bstatic\\s*\\{").matcher(code).find(), "no static initialiser block");
        madeInConstructorsAlone(code);
        shortMethods(code);
    }

    /** All calls of a run share one room: whatever is made is made when an object is. */
    private static void madeInConstructorsAlone(String code) {
        String without = code.replaceAll("(?s)\\b(public )?(SpentPasses|Hall|Shelf|Seen|Text)\\(\\) \\{.*?\n {4,8}\\}", "");
        must(!Pattern.compile("\\bnew\\b").matcher(without).find(), "rows are made in constructors alone");
    }

    private static void shortMethods(String code) {
        int begun = 0;
        String[] lines = code.split("\n");
        for (int i = 0; i < lines.length; i++) {
            if (lines[i].matches(" {4,8}[a-z].*\\) \\{")) {
                begun = i;
            }
            if (lines[i].matches(" {4,8}\\}")) {
                must(i - begun <= 60 || lines[begun].contains("class"), "a method of some sixty lines, ending at line " + i);
            }
            must(lines[i].length() <= 125, "a line of at most 125 signs: " + (i + 1));
        }
    }
}
