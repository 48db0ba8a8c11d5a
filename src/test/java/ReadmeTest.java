import java.lang.reflect.InvocationTargetException;
import java.lang.reflect.Method;
import java.nio.charset.StandardCharsets;
import java.nio.file.Files;
import java.nio.file.Paths;
import java.util.ArrayList;
import java.util.List;
import java.util.NoSuchElementException;
import java.util.regex.Matcher;
import java.util.regex.Pattern;

/** README.md tells the truth: each row of its examples answers what stands behind it, and it names every call. */
public final class ReadmeTest {
    private static final Pattern CALL = Pattern.compile("x\\.(\\w+)\\(([^)]*)\\);(?:\\s*// (-?\\w+).*)?");
    private static final Pattern PUT = Pattern.compile("put\\(x, \"([^\"]*)\"\\);");
    private static int wrong = 0;
    private static int answers = 0;

    // These lines stand in README.md, too, letter by letter.
    static void put(SevenTable x, String text) {
        x.end(0);
        for (int i = 0; i < text.length(); i += 20) {
            int[] four = new int[5];
            for (int k = 0; k < 20; k++) {
                int sign = i + k < text.length() ? text.charAt(i + k) : 0;
                four[k / 4] = four[k / 4] << 8 | sign;
            }
            x.feed(four[0], four[1], four[2], four[3], four[4]);
        }
        x.end(text.length());
    }

    public static void main(String[] args) throws Exception {
        String page = read("README.md");
        List<String> blocks = javaBlocks(page);
        if (blocks.size() != 2) {
            tell("two examples are due, found are " + blocks.size());
        } else {
            if (!read("src/test/java/ReadmeTest.java").contains(blocks.get(0).replaceAll("(?m)^(?=.)", "    "))) {
                tell("the put of README.md is another one than this test's");
            }
            runRows(blocks.get(1));
        }
        for (Method method : SevenTable.class.getDeclaredMethods()) {
            boolean isFace = (method.getModifiers() & java.lang.reflect.Modifier.PUBLIC) != 0;
            if (isFace && !Pattern.compile("`" + method.getName() + "\\b").matcher(page).find()) {
                tell("README.md does not name " + method.getName());
            }
        }
        System.out.println("readme: " + answers + " answers, " + wrong + " wrong");
        System.exit(wrong > 0 || answers == 0 ? 1 : 0);
    }

    private static String read(String path) throws Exception {
        return new String(Files.readAllBytes(Paths.get(path)), StandardCharsets.UTF_8);
    }

    private static void tell(String what) {
        wrong++;
        System.out.println(what);
    }

    private static List<String> javaBlocks(String page) {
        List<String> blocks = new ArrayList<>();
        Matcher m = Pattern.compile("(?s)```java\n(.*?)```").matcher(page);
        while (m.find()) {
            blocks.add(m.group(1));
        }
        return blocks;
    }

    private static void runRows(String block) throws Exception {
        SevenTable x = null;
        for (String row : block.split("\n")) {
            Matcher call = CALL.matcher(row);
            Matcher text = PUT.matcher(row);
            if (row.equals("SevenTable x = new SevenTable();")) {
                x = new SevenTable();
            } else if (text.matches()) {
                put(x, text.group(1));
            } else if (call.matches()) {
                String got = answer(x, call.group(1), call.group(2));
                if (call.group(3) != null) {
                    answers++;
                    if (!got.equals(call.group(3))) {
                        tell(row + " answered " + got);
                    }
                }
            } else {
                tell("not understood: " + row);
            }
        }
    }

    private static String answer(SevenTable x, String name, String list) throws Exception {
        String[] words = list.isEmpty() ? new String[0] : list.split(", ");
        Class<?>[] types = new Class<?>[words.length];
        Object[] numbers = new Object[words.length];
        for (int i = 0; i < words.length; i++) {
            types[i] = int.class;
            numbers[i] = Integer.decode(words[i]);
        }
        try {
            return String.valueOf(SevenTable.class.getMethod(name, types).invoke(x, numbers));
        } catch (InvocationTargetException e) {
            return e.getCause() instanceof NoSuchElementException ? "throws" : String.valueOf(e.getCause());
        }
    }
}
