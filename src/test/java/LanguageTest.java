import java.lang.reflect.Constructor;
import java.lang.reflect.Field;
import java.lang.reflect.Method;
import java.lang.reflect.Modifier;
import java.nio.charset.StandardCharsets;
import java.nio.file.Files;
import java.nio.file.Paths;
import java.util.Arrays;
import java.util.List;
import java.util.Set;
import java.util.TreeSet;
import java.util.regex.Matcher;
import java.util.regex.Pattern;

/** The rules of ../shared/LANGUAGE.md that can be seen in the text of the class. */
public final class LanguageTest {
    private static final List<String> FACE = Arrays.asList("feed", "end", "table", "fault", "hand", "person", "book",
            "heap", "now", "why", "ask", "asked", "undo", "known", "can", "odds", "next", "whom", "sweep", "swept",
            "gains", "open", "first", "bent", "play", "deal", "games", "length", "reply", "leader", "evening", "heard",
            "sentence", "said", "image", "restore", "count");
    private static int wrong = 0;

    private static void refuse(boolean bad, String why) {
        if (bad) {
            wrong++;
            System.out.println(why);
        }
    }

    private static void refuseAll(String code, String pattern, String why) {
        Matcher m = Pattern.compile(pattern).matcher(code);
        while (m.find()) {
            refuse(true, why + ": " + m.group().trim());
        }
    }

    public static void main(String[] args) throws Exception {
        byte[] bytes = Files.readAllBytes(Paths.get("src/main/java/SevenTable.java"));
        String text = new String(bytes, StandardCharsets.ISO_8859_1);
        for (byte b : bytes) {
            refuse(b < 0, "a sign above 127");
        }
        String code = text.replaceAll("(?s)/\\*.*?\\*/", "").replaceAll("//[^\n]*", "");
        String bare = code.replaceAll("\"[^\"\n]*\"", "\"\"");
        refuseAll(bare, "import (?!java\\.util\\.(Arrays|NoSuchElementException);)[^;]*;", "an import");
        refuseAll(bare, "\\bpackage\\b", "a package");
        refuseAll(bare, "->|::", "a lambda or a method's name");
        refuseAll(bare, "\\b(try|catch|finally|synchronized|assert|instanceof|protected|float|double|System\\.(?!arraycopy)\\w+)\\b",
                "a word that is not needed");
        refuseAll(bare, "\\bstatic\\s*\\{", "a static block");
        refuseAll(bare, "\"\"\\s*\\+|\\+\\s*\"\"", "texts joined by +");
        refuseAll(bare, "\\w+Exact\\b", "an Exact function");
        refuseAll(bare, "throw new (?!NoSuchElementException\\(\"\"\\);).*", "another throw");
        refuseAll(bare, "while \\(true\\)|for \\(;;\\)", "a loop without an end");
        refuseAll(bare, "\\bpublic\\b(?! (static final int NONE|final class SevenTable|SevenTable\\(\\)|(int|long|boolean) \\w+\\())"
                + ".*", "a public member");
        int classes = bare.split("\\bclass \\w").length - 1;
        refuse(classes > 12, classes + " classes");
        methods(bare);
        face();
        members();
        System.out.println("language: " + classes + " classes, " + wrong + " wrong");
        System.exit(wrong > 0 ? 1 : 0);
    }

    private static void methods(String bare) {
        Matcher m = Pattern.compile("(?m)^( {4}| {8})((?:\\w+(?:\\[\\])? )*)(\\w+)\\(([^)]*)\\)[^;{]*\\{\n").matcher(bare);
        int found = 0;
        while (m.find()) {
            String name = m.group(3);
            found++;
            int close = bare.indexOf("\n" + m.group(1) + "}", m.end() - 1);
            int lines = bare.substring(m.end(), Math.max(m.end(), close)).split("\n").length;
            refuse(lines > 60, name + " has " + lines + " lines");
            refuse(m.group(4).split(",").length > 7, name + " has too many parameters");
            boolean isFace = m.group(2).contains("public");
            refuse(!isFace && FACE.contains(name), name + " bears a name of the face");
        }
        refuse(found < 100, "the text of the methods was not found: " + found);
    }

    /** The face is the document's, each constant, constructor and method, and nothing else is open. */
    private static void face() throws Exception {
        String document = new String(Files.readAllBytes(Paths.get("../shared/DOC.md")), StandardCharsets.ISO_8859_1);
        Set<String> due = new TreeSet<>();
        Matcher m = Pattern.compile("(?m)^    public ([^;]*);").matcher(document);
        while (m.find()) {
            due.add(m.group(1).replaceAll("int \\w+(?=[,)])", "int").replaceAll(" = .*", ""));
        }
        refuse(due.size() != 39, "the document's face has " + due.size() + " members");
        Set<String> found = new TreeSet<>();
        for (Field field : SevenTable.class.getDeclaredFields()) {
            if (!Modifier.isPrivate(field.getModifiers())) {
                found.add("static final " + field.getType() + " " + field.getName());
                refuse(!Modifier.isPublic(field.getModifiers()) || !Modifier.isStatic(field.getModifiers()), "open: " + field);
            }
        }
        for (Constructor<?> constructor : SevenTable.class.getDeclaredConstructors()) {
            found.add("SevenTable(" + types(constructor.getParameterTypes()) + ")");
            refuse(!Modifier.isPublic(constructor.getModifiers()), "not open: " + constructor);
        }
        for (Method method : SevenTable.class.getDeclaredMethods()) {
            if (!Modifier.isPrivate(method.getModifiers())) {
                String thrown = types(method.getExceptionTypes());
                found.add(method.getReturnType() + " " + method.getName() + "(" + types(method.getParameterTypes()) + ")"
                        + (thrown.isEmpty() ? "" : " throws " + thrown));
                refuse(!Modifier.isPublic(method.getModifiers()) || Modifier.isStatic(method.getModifiers()), "open: " + method);
            }
        }
        refuse(!found.equals(due), "the face is " + found + ", due is " + due);
        refuse(!Modifier.isFinal(SevenTable.class.getModifiers()), "the class is not final");
    }

    private static String types(Class<?>[] types) {
        StringBuilder s = new StringBuilder();
        for (Class<?> type : types) {
            s.append(s.length() > 0 ? ", " : "").append(type.getSimpleName());
        }
        return s.toString();
    }

    /** Classes inside are static and closed, static fields are constants, and no class has too many fields. */
    private static void members() {
        for (Class<?> inside : SevenTable.class.getDeclaredClasses()) {
            int modifiers = inside.getModifiers();
            refuse(!Modifier.isStatic(modifiers) || Modifier.isPublic(modifiers) || Modifier.isProtected(modifiers),
                    "not static or not closed: " + inside);
            fields(inside);
        }
        fields(SevenTable.class);
    }

    private static void fields(Class<?> type) {
        int own = 0;
        for (Field field : type.getDeclaredFields()) {
            boolean isStatic = Modifier.isStatic(field.getModifiers());
            own += isStatic ? 0 : 1;
            boolean constant = field.getType() == int.class || field.getType() == String.class;
            refuse(isStatic && !(constant && Modifier.isFinal(field.getModifiers())), "no constant: " + field);
        }
        refuse(own > 20, type + " has " + own + " fields");
    }
}
