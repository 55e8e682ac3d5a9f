import java.lang.reflect.Constructor;
import java.lang.reflect.Field;
import java.lang.reflect.Method;
import java.lang.reflect.Modifier;
import java.nio.file.Files;
import java.nio.file.Path;
import java.util.List;
import java.util.Set;
import java.util.TreeSet;
import java.util.regex.Matcher;
import java.util.regex.Pattern;
import javax.lang.model.element.Element;

/** Whether the class has just the document's face and keeps to those rules of LANGUAGE.md that can be told by looking. */
public final class LanguageTest {
    private static final Path SOURCE = Path.of("src/main/java/StampRoad.java");
    private static final Path DOCUMENT = Path.of("../shared/DOC.md");
    /** What the class uses of that which the rules allow (the first one each constructor calls unsaid). */
    private static final Set<String> LIBRARY = Set.of("java.lang.Object.<init>", "java.util.Arrays.fill",
        "java.lang.Integer.bitCount", "java.lang.Math.max", "java.lang.Math.min", "java.lang.String.indexOf",
        "java.lang.String.charAt");
    private static int wrong = 0;

    private static void due(boolean holds, String what) {
        if (!holds) {
            wrong++;
            System.out.println(what);
        }
    }

    public static void main(String[] args) throws Exception {
        String source = Files.readString(SOURCE);
        String code = source.replaceAll("(?s)/\\*.*?\\*/", " ").replaceAll("//[^\n]*", " ")
            .replaceAll("\"(\\\\.|[^\"\\\\])*\"", "\"\"").replaceAll("'(\\\\.|[^'\\\\])'", "' '");
        face();
        nested();
        words(source, code);
        lengths(code);
        calls();
        System.out.println(wrong == 0 ? "the face and the language are as due" : wrong + " things are not as due");
        if (wrong != 0) {
            System.exit(1);
        }
    }

    private static void face() throws Exception {
        String document = Files.readString(DOCUMENT);
        String block = document.substring(document.indexOf("```java"), document.indexOf("## Terms"));
        Set<String> want = new TreeSet<>();
        Matcher method = Pattern.compile("public (int|boolean) (\\w+)\\(([^)]*)\\);").matcher(block);
        while (method.find()) {
            int parameters = method.group(3).isEmpty() ? 0 : method.group(3).split(",").length;
            want.add(method.group(1) + " " + method.group(2) + " " + parameters);
        }
        Set<String> got = new TreeSet<>();
        Set<String> names = new TreeSet<>();
        for (Method m : StampRoad.class.getDeclaredMethods()) {
            if (!Modifier.isPrivate(m.getModifiers())) {
                due(Modifier.isPublic(m.getModifiers()), m + " is neither public nor private");
                got.add(m.getReturnType() + " " + m.getName() + " " + m.getParameterCount());
                names.add(m.getName());
            }
        }
        due(want.size() == 31, "the document's face has " + want.size() + " methods");
        due(got.equals(want), "the face is " + got + ", due is " + want);
        for (Field f : StampRoad.class.getDeclaredFields()) {
            boolean isConstant = f.getName().equals("NONE");
            due(Modifier.isPublic(f.getModifiers()) == isConstant, f + " is open to others, or not");
            due(isConstant || Modifier.isPrivate(f.getModifiers()), f + " is not private");
        }
        Constructor<?>[] made = StampRoad.class.getDeclaredConstructors();
        due(made.length == 1 && Modifier.isPublic(made[0].getModifiers()), "one public constructor is due");
        due(Modifier.isFinal(StampRoad.class.getModifiers()), "the class is not final");
        for (Class<?> c : StampRoad.class.getDeclaredClasses()) {
            for (Method m : c.getDeclaredMethods()) {
                due(!names.contains(m.getName()), m + " bears the name of a public method");
            }
        }
    }

    private static void nested() {
        Class<?>[] classes = StampRoad.class.getDeclaredClasses();
        due(classes.length <= 11, classes.length + " classes inside");
        for (Class<?> c : classes) {
            due(Modifier.isStatic(c.getModifiers()) && Modifier.isPrivate(c.getModifiers()), c + " is not private static");
            int fields = 0;
            for (Field f : c.getDeclaredFields()) {
                boolean isStatic = Modifier.isStatic(f.getModifiers());
                fields += isStatic ? 0 : 1;
                due(!isStatic || Modifier.isFinal(f.getModifiers()), f + " is static and not final");
            }
            due(fields <= 20, c + " has " + fields + " fields");
            for (Method m : c.getDeclaredMethods()) {
                due(m.getParameterCount() <= 7, m + " takes too many parameters");
            }
        }
    }

    private static void words(String source, String code) {
        for (String word : List.of("throw", "throws", "try", "catch", "synchronized", "assert", "new Random", "System.out",
            "System.nanoTime", "Object", "hashCode", "toString", "protected", "volatile", "transient", "native", "var")) {
            due(!Pattern.compile("\\b" + word + "\\b").matcher(code).find(), "'" + word + "' stands in the source");
        }
        due(!code.contains("->") && !code.contains("::"), "a lambda or a method reference");
        due(!code.contains("Exact("), "a function whose name ends in Exact");
        due(!code.contains("package "), "a package line");
        due(!code.contains("@"), "an annotation");
        Matcher imports = Pattern.compile("(?m)^import (.*);").matcher(source);
        while (imports.find()) {
            due(Set.of("java.util.Arrays", "java.util.ArrayList", "java.util.List").contains(imports.group(1)),
                imports.group());
        }
        due(source.chars().allMatch(c -> c == '\n' || c >= 32 && c < 127), "a sign beyond 127 or a tab");
        Matcher loops = Pattern.compile("\\bwhile\\b").matcher(code);
        due(!loops.find(), "a while loop: its end should be seen from its lines");
    }

    private static void lengths(String code) {
        int from = -1;
        String[] lines = code.split("\n");
        for (int k = 0; k < lines.length; k++) {
            boolean isHead = lines[k].matches("( {4}| {8})[\\w\\[\\]<> ]+\\([^;]*\\) \\{");
            if (isHead) {
                from = k;
            }
            if (from >= 0 && lines[k].matches("( {4}| {8})}") && lines[k].indexOf('}') == indent(lines[from])) {
                due(k - from < 60, "a method of " + (k - from + 1) + " lines: " + lines[from]);
                from = -1;
            }
            due(lines[k].length() <= 120, "a long line: " + lines[k]);
        }
    }

    private static void calls() throws Exception {
        Calls calls = new Calls(SOURCE);
        for (String name : calls.foreign) {
            due(LIBRARY.contains(name), name + " is called");
        }
        due(calls.methods().size() > 100, "only " + calls.methods().size() + " methods were found");
        for (Element method : calls.methods()) {
            List<Element> chain = calls.deepestFrom(method);
            due(chain.size() <= 8, "calls go " + chain.size() + " deep: " + chain);
            boolean isOfParser = method.getEnclosingElement().getSimpleName().contentEquals("Parser");
            due(isOfParser || !calls.comesBackTo(method), method + " comes back to itself: only brackets may");
        }
    }

    private static int indent(String line) {
        return line.length() - line.stripLeading().length();
    }
}
