import java.lang.reflect.Constructor;
import java.lang.reflect.Field;
import java.lang.reflect.Method;
import java.lang.reflect.Modifier;
import java.nio.file.Files;
import java.nio.file.Path;
import java.util.Set;
import java.util.TreeSet;
import java.util.regex.Matcher;
import java.util.regex.Pattern;

/** The face, and what of ../shared/LANGUAGE.md can be seen from the outside and from the program's words. */
public final class LanguageTest {
    private static final Due due = new Due();
    private static final String FACE = "int feed(long,int);int sort();int told(int,int,int,int);int thing(int,int);"
        + "int of(int,int);int days(int);int seen(int,boolean);long best(int,int,int,int);int number(int,int);"
        + "int such(int,int);int looks(int);int plan(int,int);int row(int,int);int whom(int);long mean(int,int);"
        + "long all(int,int);long loses(int,int);long bound(int);int judged(int,int);long run(int,int,int);"
        + "long round(int,int);int tour(int,int);int edge(int,int);int act(int,int,int);int trace(int);"
        + "int as(int,int);int image();int undo();int count(int);";
    private static final String[] NOT_ALLOWED = {"\\bthrow\\b", "\\bthrows\\b", "\\btry\\b", "\\bcatch\\b",
        "\\bsynchronized\\b", "\\bassert\\b", "->", "::", "@", "Exact\\b", "static \\{", "\\benum\\b.*\\{.*\\{",
        "\\bMath\\.random", "\\bObject\\b", "\\bThread\\b", "\\bnew \\w+\\([^)]*\\) \\{", "\\bvar\\b", "%n", "\\bfloat\\b",
        "\\bdouble\\b", "\\byield\\b", "\\bdefault ->", "\\bprotected\\b", "[^\\x00-\\x7f]"};

    private static String kept(Method m) {
        StringBuilder text = new StringBuilder(m.getReturnType() + " " + m.getName() + "(");
        for (Class<?> type : m.getParameterTypes()) {
            text.append(text.charAt(text.length() - 1) == '(' ? "" : ",").append(type);
        }
        return text.append(")").toString();
    }

    private static void face() {
        Set<String> open = new TreeSet<>();
        Set<String> names = new TreeSet<>();
        Set<String> hidden = new TreeSet<>();
        for (Method m : GateWatch.class.getDeclaredMethods()) {
            if (Modifier.isPrivate(m.getModifiers())) {
                hidden.add(m.getName());
            } else {
                open.add(kept(m));
                names.add(m.getName());
            }
        }
        due.is("the public methods", open.equals(new TreeSet<>(Set.of(FACE.split(";")))) ? 1 : 0, 1);
        for (Class<?> inside : GateWatch.class.getDeclaredClasses()) {
            due.is(inside + " is static", Modifier.isStatic(inside.getModifiers()) ? 1 : 0, 1);
            for (Method m : inside.getDeclaredMethods()) {
                hidden.add(m.getName());
            }
            due.is(inside + "'s fields", inside.getDeclaredFields().length <= 24 ? 1 : 0, 1);
        }
        hidden.retainAll(names);
        due.is("private methods with a public one's name: " + hidden, hidden.size(), 0);
        due.is("classes", GateWatch.class.getDeclaredClasses().length <= 11 ? 1 : 0, 1);
        int constants = 0;
        for (Field f : GateWatch.class.getDeclaredFields()) {
            boolean open1 = Modifier.isPublic(f.getModifiers());
            due.is(f + " is private or public", open1 || Modifier.isPrivate(f.getModifiers()) ? 1 : 0, 1);
            constants += open1 ? 1 : 0;
        }
        due.is("constants", constants, 5);
        Constructor<?>[] made = GateWatch.class.getDeclaredConstructors();
        due.is("constructors", made.length, 1);
        due.is("public", Modifier.isPublic(made[0].getModifiers()) ? 1 : 0, 1);
        due.is("final", Modifier.isFinal(GateWatch.class.getModifiers()) ? 1 : 0, 1);
    }

    private static void words() throws Exception {
        String text = Files.readString(Path.of("src/main/java/GateWatch.java"));
        String bare = text.replaceAll("(?s)/\\*.*?\\*/", "").replaceAll("//[^\n]*", "")
            .replaceAll("\"[^\"\n]*\"", "\"\"").replaceAll("'[^'\n]'", "' '");
        for (String word : NOT_ALLOWED) {
            Matcher found = Pattern.compile(word).matcher(bare);
            due.is("'" + word + "' stands in the program", found.find() ? 1 : 0, 0);
        }
        Matcher imports = Pattern.compile("import ([\\w.]+);").matcher(bare);
        while (imports.find()) {
            due.is(imports.group(), imports.group(1).matches("java\\.util\\.(Arrays|ArrayList|List)") ? 1 : 0, 1);
        }
        Matcher library = Pattern.compile("\\b(Arrays|Integer|Long|Math|System)\\.(\\w+)").matcher(bare);
        while (library.find()) {
            due.is(library.group() + " is of the library", library.group(2).matches(
                "copyOf|copyOfRange|fill|arraycopy|max|min|abs|bitCount|floorDiv|floorMod|compare|MIN_VALUE"
                + "|numberOfTrailingZeros|highestOneBit") ? 1 : 0, 1);
        }
        due.is("a package line", bare.contains("package ") ? 1 : 0, 0);
        methodLengths(text);
    }

    /** A method begins at four or eight blanks, and ends with a brace at the same. */
    private static void methodLengths(String text) {
        String[] lines = text.split("\n");
        for (int i = 0; i < lines.length; i++) {
            Matcher head = Pattern.compile("^( {4}| {8})\\w[^=;]*\\) \\{$").matcher(lines[i]);
            if (head.find()) {
                int end = i;
                while (!lines[end].equals(head.group(1) + "}")) {
                    end++;
                }
                due.is(lines[i].trim() + " is short", end - i <= 60 ? 1 : 0, 1);
                due.is(lines[i].trim() + " takes few", lines[i].split(",").length <= 7 ? 1 : 0, 1);
            }
        }
    }

    public static void main(String[] args) throws Exception {
        face();
        words();
        due.end();
    }
}
