import java.lang.reflect.Constructor;
import java.lang.reflect.Field;
import java.lang.reflect.Method;
import java.lang.reflect.Modifier;
import java.nio.file.Files;
import java.nio.file.Path;
import java.util.Arrays;
import java.util.Set;
import java.util.TreeSet;
import java.util.regex.Matcher;
import java.util.regex.Pattern;

/** The public face is the document's and no more, and the source keeps to LANGUAGE.md. */
public final class FaceTests {
    private static final String[] FACE = {
        "int feed(long, int)", "int cut(int)", "int read()", "int length(int)",
        "int element(int, int)", "int rowByte(int, int, int)", "int pages()", "int cost()",
        "int page(int, int)", "int lock()", "int strike(int)", "int insert(int, int)",
        "int sheets(int)", "int sheet(int, int, int)", "int where(int)", "int merge()",
        "int scenes()", "int scene(int, int)", "int who(int, int)", "int parts(int)",
        "int count(int)", "long digest()"};

    private static int wrong = 0;

    private static void hold(boolean holds, String what) {
        if (!holds) {
            wrong++;
            System.out.println(what);
        }
    }

    public static void main(String[] args) throws Exception {
        face();
        String source = Files.readString(Path.of(System.getProperty("scriptdesk.source",
                "src/main/java/ScriptDesk.java")));
        words(source);
        imports(source);
        sizes(source);
        System.out.println(wrong == 0 ? "the face and the source are as told" : wrong + " faults");
        if (wrong != 0) {
            System.exit(1);
        }
    }

    private static void face() {
        Class<ScriptDesk> told = ScriptDesk.class;
        hold(Modifier.isFinal(told.getModifiers()), "the class is not final");
        Set<String> open = new TreeSet<>();
        Set<String> names = new TreeSet<>();
        for (Method m : told.getDeclaredMethods()) {
            if (!Modifier.isPrivate(m.getModifiers())) {
                String types = Arrays.toString(m.getParameterTypes());
                open.add(m.getReturnType() + " " + m.getName() + "("
                        + types.substring(1, types.length() - 1) + ")");
                names.add(m.getName());
                hold(Modifier.isPublic(m.getModifiers()), m + " is neither private nor public");
            }
        }
        hold(open.equals(new TreeSet<>(Arrays.asList(FACE))), "the methods are " + open);
        for (Method m : told.getDeclaredMethods()) {
            hold(!Modifier.isPrivate(m.getModifiers()) || !names.contains(m.getName()),
                    m + " bears the name of a public method");
        }
        Constructor<?>[] made = told.getDeclaredConstructors();
        hold(made.length == 1 && Modifier.isPublic(made[0].getModifiers())
                && made[0].getParameterCount() == 0, "the constructors are not as told");
        int constants = 0;
        for (Field f : told.getDeclaredFields()) {
            boolean hidden = Modifier.isPrivate(f.getModifiers());
            constants += hidden ? 0 : 1;
            hold(hidden || Set.of("NONE", "BAD", "NO", "FULL").contains(f.getName()), f + " is seen");
            hold(!Modifier.isStatic(f.getModifiers()) || Modifier.isFinal(f.getModifiers()),
                    f + " is not final");
        }
        hold(constants == 4, "there are " + constants + " constants");
        hold(told.getDeclaredClasses().length <= 12, "too many classes");
        for (Class<?> inside : told.getDeclaredClasses()) {
            hold(Modifier.isStatic(inside.getModifiers()), inside + " is not static");
            for (Method m : inside.getDeclaredMethods()) {
                hold(!names.contains(m.getName()), m + " bears the name of a public method");
            }
            long fields = Arrays.stream(inside.getDeclaredFields())
                    .filter(f -> !Modifier.isStatic(f.getModifiers())).count();
            hold(fields <= 20, inside + " has " + fields + " fields");
        }
    }

    private static void words(String source) {
        String code = source.replaceAll("(?s)/\\*.*?\\*/", " ").replaceAll("//[^\n]*", " ");
        for (String word : new String[] {"throw", "throws", "try", "catch", "finally", "synchronized",
            "assert", "package", "protected", "volatile", "Object", "Exception", "System.out",
            "hashCode", "toString", "var", "HashMap", "stream", "Thread", "Random"}) {
            hold(!Pattern.compile("\\b" + Pattern.quote(word) + "\\b").matcher(code).find(),
                    "the source has the word " + word);
        }
        hold(!code.contains("->") && !code.contains("::"), "a lambda or a method reference");
        hold(!code.contains("Exact"), "a function that ends in Exact");
        hold(!Pattern.compile("\\bwhile\\b").matcher(code).find(), "a loop without a counter");
        hold(!Pattern.compile("\"\\s*\\+|\\+\\s*\"").matcher(code).find(), "texts joined by +");
        hold(source.chars().allMatch(c -> c < 127), "a sign beyond 126");
    }

    private static void imports(String source) {
        Matcher m = Pattern.compile("(?m)^import (.*);").matcher(source);
        while (m.find()) {
            hold(Set.of("java.util.ArrayList", "java.util.Arrays", "java.util.List")
                    .contains(m.group(1)), "import " + m.group(1));
        }
    }

    private static void sizes(String source) {
        String[] lines = source.split("\n");
        int begun = -1;
        String indent = "";
        for (int i = 0; i < lines.length; i++) {
            Matcher m = Pattern.compile("^( +)(?!return|else|new)[\\w<>\\[\\], ]+\\(([^()]*)\\) \\{$")
                    .matcher(lines[i]);
            if (m.matches() && !lines[i].matches(" +(if|for|switch|\\}).*")) {
                begun = i;
                indent = m.group(1);
                hold(m.group(2).split(",").length <= 7, "line " + (i + 1) + ": too many parameters");
            }
            if (begun >= 0 && lines[i].equals(indent + "}")) {
                hold(i - begun <= 60, "line " + (begun + 1) + ": a method that is too long");
                begun = -1;
            }
        }
    }
}
