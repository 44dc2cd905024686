import java.io.IOException;
import java.lang.reflect.Constructor;
import java.lang.reflect.Executable;
import java.lang.reflect.Field;
import java.lang.reflect.Method;
import java.lang.reflect.Modifier;
import java.nio.file.Files;
import java.nio.file.Path;
import java.util.ArrayList;
import java.util.Arrays;
import java.util.List;
import java.util.Set;
import java.util.TreeSet;
import java.util.regex.Matcher;
import java.util.regex.Pattern;
import java.util.stream.Collectors;

/** The face that the document shows, and those rules of LANGUAGE.md that can be seen from outside. */
public final class LanguageRules {
    private static final Path SOURCE = Path.of("src/main/java/Taskgraphic.java");
    private static final Path DOCUMENT = Path.of("../shared/DOC.md");

    /** What the rules 2 to 6 and 13 leave out, as it looks in a source without comments and texts. */
    private static final String[] LEFT_OUT = {
        "->", "::", "\\bcatch\\b", "\\btry\\b", "\\bfinally\\b", "\\bsynchronized\\b", "\\bassert\\b",
        "\\bnative\\b", "\\bvolatile\\b", "\\btransient\\b", "\\bequals\\b", "\\bhashCode\\b", "\\btoString\\b",
        "Exact\\b", "\\bSystem\\.(?!arraycopy)", "\\bThread\\b", "\\bRandom\\b", "\\bString\\.", "\\bObject\\b",
        "\\bvar\\b", "static \\{", "\\bprotected\\b", "\\bpackage\\b", "\\bInteger\\.valueOf\\b",
    };

    private static int wrong;

    private static void demand(boolean holds, String rule) {
        if (!holds) {
            wrong++;
            System.out.println("not so: " + rule);
        }
    }

    private static String signature(Executable e, String name, String result) {
        String parameters = Arrays.stream(e.getParameterTypes()).map(Class::getSimpleName)
            .collect(Collectors.joining(", "));
        String thrown = Arrays.stream(e.getExceptionTypes()).map(Class::getSimpleName)
            .collect(Collectors.joining(", "));
        return result + name + "(" + parameters + ")" + (thrown.isEmpty() ? "" : " throws " + thrown);
    }

    private static Set<String> faceOfClass() {
        Set<String> face = new TreeSet<>();
        for (Constructor<?> c : Taskgraphic.class.getConstructors()) {
            face.add(signature(c, "Taskgraphic", ""));
        }
        for (Method m : Taskgraphic.class.getDeclaredMethods()) {
            if (Modifier.isPublic(m.getModifiers())) {
                demand(!Modifier.isStatic(m.getModifiers()), m.getName() + " belongs to an object");
                face.add(signature(m, m.getName(), m.getReturnType().getSimpleName() + " "));
            }
        }
        return face;
    }

    private static Set<String> faceOfDocument() throws IOException {
        String text = Files.readString(DOCUMENT);
        String block = text.substring(text.indexOf("```java"), text.indexOf("```\n", text.indexOf("```java") + 3));
        Set<String> face = new TreeSet<>();
        Matcher m = Pattern.compile("    public ([^;(]*\\([^)]*\\)[^;]*);").matcher(block);
        while (m.find()) {
            String line = m.group(1);
            int open = line.indexOf('(');
            int close = line.indexOf(')');
            String types = Arrays.stream(line.substring(open + 1, close).split(", "))
                .map(p -> p.split(" ")[0]).collect(Collectors.joining(", "));
            face.add(line.substring(0, open + 1) + types + line.substring(close));
        }
        return face;
    }

    private static void theFace() throws IOException {
        Set<String> due = faceOfDocument();
        Set<String> got = faceOfClass();
        demand(due.size() == 37, "the document shows a constructor and 36 methods, seen are " + due.size());
        demand(due.equals(got), "the face is " + due + ", but the class has " + got);
        int modifiers = Taskgraphic.class.getModifiers();
        demand(Modifier.isPublic(modifiers) && Modifier.isFinal(modifiers), "the class is public and final");
        Set<String> open = new TreeSet<>();
        for (Method m : Taskgraphic.class.getDeclaredMethods()) {
            if (Modifier.isPublic(m.getModifiers())) {
                open.add(m.getName());
            }
        }
        for (Method m : Taskgraphic.class.getDeclaredMethods()) {
            boolean hidden = Modifier.isPrivate(m.getModifiers());
            demand(hidden || Modifier.isPublic(m.getModifiers()), m + " is private or of the face");
            demand(!hidden || !open.contains(m.getName()), m + " has a name of its own");
        }
        for (Field f : Taskgraphic.class.getDeclaredFields()) {
            demand(Modifier.isPrivate(f.getModifiers()), f + " is private");
        }
    }

    private static void theClasses() {
        List<Class<?>> all = new ArrayList<>(List.of(Taskgraphic.class.getDeclaredClasses()));
        for (Class<?> inside : all) {
            int modifiers = inside.getModifiers();
            demand(Modifier.isStatic(modifiers), inside + " is static");
            demand(!Modifier.isPublic(modifiers) && !Modifier.isProtected(modifiers), inside + " is hidden");
        }
        all.add(Taskgraphic.class);
        demand(all.size() <= 12, "there are 12 classes at most, not " + all.size());
        for (Class<?> one : all) {
            int fields = 0;
            for (Field f : one.getDeclaredFields()) {
                boolean ofClass = Modifier.isStatic(f.getModifiers());
                fields += ofClass ? 0 : 1;
                demand(!ofClass || Modifier.isFinal(f.getModifiers()), f + " is final");
            }
            demand(fields <= 20, one + " has 20 fields at most, not " + fields);
            for (Method m : one.getDeclaredMethods()) {
                demand(m.getParameterCount() <= 7, m + " takes 7 parameters at most");
            }
            for (Constructor<?> c : one.getDeclaredConstructors()) {
                demand(c.getParameterCount() <= 7, c + " takes 7 parameters at most");
            }
        }
    }

    private static void theWords(String source) {
        String bare = source.replaceAll("(?s)/\\*.*?\\*/", "").replaceAll("//[^\n]*", "");
        demand(bare.chars().allMatch(c -> c < 128), "all signs are 1 to 127");
        String code = bare.replaceAll("\"[^\"\n]*\"", "\"\"");
        for (String left : LEFT_OUT) {
            Matcher m = Pattern.compile(left).matcher(code);
            demand(!m.find(), "the program does without " + left);
        }
        Matcher imported = Pattern.compile("import ([^;]*);").matcher(code);
        while (imported.find()) {
            demand(imported.group(1).matches("java\\.util\\.(ArrayList|List|Arrays)"), imported.group() + " is allowed");
        }
        Matcher thrown = Pattern.compile("\\bthrow\\b[^;]*;").matcher(bare);
        String allowed = "throw new (IllegalState|IllegalArgument|IndexOutOfBounds)Exception\\(\"[^\"]*\"\\);";
        while (thrown.find()) {
            demand(thrown.group().matches(allowed), thrown.group() + " is one of the three with a written text");
        }
    }

    /** Every index and every length stands behind a test of its own, in the one class that has any. */
    private static void theArrays(String source) {
        Matcher index = Pattern.compile("\\w+\\[[^\\]]+\\]").matcher(source);
        while (index.find()) {
            demand(index.group().matches("cells\\[place\\]|int\\[Math\\.max\\(0, length\\)\\]"),
                index.group() + " is one of the tested ones");
        }
        demand(!Pattern.compile("[^/*]/[^/*]").matcher(source.replace("/ 2", "").replace("/ (float) most", "")
            .replaceAll("(?s)/\\*.*?\\*/", "")).find(), "nothing is divided but by 2, and by what is above 0");
    }

    private static void theMethods(List<String> lines) {
        for (int i = 0; i < lines.size(); i++) {
            String line = lines.get(i);
            if (line.matches(" {4,8}[^ */}].*\\{") && !line.contains(" class ") && !line.contains(" enum ")) {
                String end = line.substring(0, line.length() - line.stripLeading().length()) + "}";
                int length = lines.subList(i, lines.size()).indexOf(end) + 1;
                demand(length <= 60, "this is no longer than 60 lines: " + line.strip());
            }
            demand(line.length() <= 110, "the line " + (i + 1) + " is no longer than 110 signs");
        }
    }

    public static void main(String[] args) throws IOException {
        String source = Files.readString(SOURCE);
        theFace();
        theClasses();
        theWords(source);
        theArrays(source);
        theMethods(source.lines().toList());
        System.out.println(wrong == 0 ? "the face and the rules are kept" : wrong + " rules are not kept");
        if (wrong != 0) {
            System.exit(1);
        }
    }
}
