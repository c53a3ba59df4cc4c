import java.lang.reflect.Field;
import java.lang.reflect.Method;
import java.lang.reflect.Modifier;
import java.nio.file.Files;
import java.nio.file.Path;
import java.util.ArrayList;
import java.util.Collections;
import java.util.List;
import java.util.Set;
import java.util.TreeSet;
import java.util.regex.Matcher;
import java.util.regex.Pattern;

/** The face is the document's, and the source keeps to those rules of LANGUAGE.md that can be read off it. */
public final class FaceTests {
    private static final Path SOURCE = Path.of("src/main/java/LeastWords.java");
    private static final Path DOCUMENT = Path.of("../shared/DOC.md");
    private static int wrong = 0;

    public static void main(String[] args) throws Exception {
        face();
        members();
        source(Files.readString(SOURCE));
        System.out.println(wrong == 0 ? "the face is as due" : wrong + " things of the face are not as due");
        System.exit(wrong == 0 ? 0 : 1);
    }

    private static void say(boolean right, String what) {
        if (!right) {
            wrong++;
            System.out.println(what);
        }
    }

    private static void face() throws Exception {
        Set<String> due = new TreeSet<>();
        Pattern line = Pattern.compile("^    public (\\w+) (\\w+)\\((.*?)\\)(?: throws (.*))?;$", Pattern.MULTILINE);
        Matcher m = line.matcher(Files.readString(DOCUMENT));
        while (m.find()) {
            String types = m.group(3).replaceAll(" \\w+(,|$)", "$1");
            String thrown = m.group(4) == null ? "" : m.group(4);
            due.add(m.group(1) + " " + m.group(2) + "(" + types + ") " + thrown);
        }
        Set<String> got = new TreeSet<>();
        for (Method x : LeastWords.class.getDeclaredMethods()) {
            if (Modifier.isPublic(x.getModifiers())) {
                got.add(x.getReturnType() + " " + x.getName() + "(" + names(x.getParameterTypes()) + ") "
                    + names(x.getExceptionTypes()));
            }
        }
        say(due.size() == 48, "the document has " + due.size() + " methods");
        say(due.equals(got), "due is " + due + "\ngot is " + got);
        say(LeastWords.class.getConstructors().length == 1, "one public constructor");
        say(Modifier.isFinal(LeastWords.class.getModifiers()), "the class is final");
    }

    private static String names(Class<?>[] types) {
        List<String> names = new ArrayList<>();
        for (Class<?> t : types) {
            names.add(t.getSimpleName());
        }
        return String.join(", ", names);
    }

    private static void members() {
        Set<String> open = new TreeSet<>();
        for (Method x : LeastWords.class.getDeclaredMethods()) {
            if (Modifier.isPublic(x.getModifiers())) {
                open.add(x.getName());
            }
        }
        for (Method x : LeastWords.class.getDeclaredMethods()) {
            boolean hidden = Modifier.isPrivate(x.getModifiers());
            say(hidden || Modifier.isPublic(x.getModifiers()), x + " is neither public nor private");
            say(!hidden || !open.contains(x.getName()), x + " bears the name of a public one");
        }
        for (Field f : LeastWords.class.getDeclaredFields()) {
            say(Modifier.isPrivate(f.getModifiers()) || f.getName().equals("NONE"), f + " is not private");
        }
        Class<?>[] inside = LeastWords.class.getDeclaredClasses();
        say(inside.length <= 11, inside.length + " classes inside");
        for (Class<?> c : inside) {
            say(Modifier.isStatic(c.getModifiers()) && !Modifier.isPublic(c.getModifiers()), c + " is not static");
            for (Field f : c.getDeclaredFields()) {
                say(!Modifier.isStatic(f.getModifiers()) || Modifier.isFinal(f.getModifiers()), f + " is static state");
            }
        }
    }

    private static void source(String text) {
        String code = text.replaceAll("(?s)/\\*.*?\\*/", "").replaceAll("//.*", "").replaceAll("\"[^\"]*\"", "\"\"");
        for (String no : List.of("->", "::", "try", "catch", "finally", "synchronized", "assert", "Exact", "static {",
                "hashCode", "equals(", "System.out", "Random", "double", "float", "var ", "record ", "protected")) {
            say(!code.contains(no), "the source has " + no);
        }
        Set<String> imports = new TreeSet<>();
        Collections.addAll(imports, "java.util.Arrays", "java.util.NoSuchElementException");
        Matcher m = Pattern.compile("import ([\\w.]+);").matcher(code);
        while (m.find()) {
            say(imports.contains(m.group(1)), "the source imports " + m.group(1));
        }
        for (char sign : text.toCharArray()) {
            say(sign == 10 || sign >= 32 && sign < 127, "the source has the sign " + (int) sign);
        }
        methods(text.split("\n"));
    }

    private static void methods(String[] lines) {
        int from = -1;
        for (int i = 0; i < lines.length; i++) {
            if (lines[i].matches("( {4}| {8})(?!return|else|if|for|while|switch)[\\w\\[\\]<> ]+\\(.*")) {
                from = i;
            }
            if (from >= 0 && lines[i].matches("( {4}| {8})}")) {
                say(i - from < 60, "a method of " + (i - from) + " lines at line " + (from + 1));
                from = -1;
            }
        }
    }
}
