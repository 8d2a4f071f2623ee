import java.io.IOException;
import java.lang.reflect.Constructor;
import java.lang.reflect.Field;
import java.lang.reflect.Method;
import java.lang.reflect.Modifier;
import java.nio.file.Files;
import java.nio.file.Path;
import java.util.ArrayList;
import java.util.Arrays;
import java.util.List;
import java.util.TreeSet;
import java.util.regex.Matcher;
import java.util.regex.Pattern;

/** The face of the class as the document has it, and the rules of LANGUAGE.md that can be seen from outside. */
public final class FaceTest {
    private static final Path SHARED = Path.of("../shared/DOC.md");
    private static final Path SOURCE = Path.of("src/main/java/Kerfhall.java");

    private FaceTest() {
    }

    private static String read(Path path) {
        try {
            return Files.readString(path);
        } catch (IOException broken) {
            throw new IllegalStateException(broken);
        }
    }

    /** The members between "public final class" and the end of the document's block of code. */
    private static TreeSet<String> documentedFace() {
        TreeSet<String> face = new TreeSet<>();
        String text = read(SHARED);
        String block = text.substring(text.indexOf("public final class Kerfhall {"));
        block = block.substring(0, block.indexOf("```"));
        Matcher line = Pattern.compile("(?m)^ {4}(public .*);$").matcher(block);
        while (line.find()) {
            face.add(line.group(1).replaceAll("\\b(int|char|boolean) \\w+([,)])", "$1$2"));
        }
        return face;
    }

    private static String namesOf(Class<?>[] classes) {
        List<String> names = new ArrayList<>();
        for (Class<?> each : classes) {
            names.add(each.getSimpleName());
        }
        return String.join(", ", names);
    }

    private static String thrown(Class<?>[] classes) {
        return classes.length == 0 ? "" : " throws " + namesOf(classes);
    }

    private static TreeSet<String> builtFace() {
        TreeSet<String> face = new TreeSet<>();
        for (Constructor<?> maker : Kerfhall.class.getConstructors()) {
            face.add("public Kerfhall(" + namesOf(maker.getParameterTypes()) + ")" + thrown(maker.getExceptionTypes()));
        }
        for (Method call : Kerfhall.class.getDeclaredMethods()) {
            if (!Modifier.isPrivate(call.getModifiers()) && !call.isSynthetic()) {
                face.add(Modifier.toString(call.getModifiers()) + " " + call.getReturnType().getSimpleName() + " "
                        + call.getName() + "(" + namesOf(call.getParameterTypes()) + ")"
                        + thrown(call.getExceptionTypes()));
            }
        }
        for (Field field : Kerfhall.class.getDeclaredFields()) {
            if (!Modifier.isPrivate(field.getModifiers())) {
                face.add(field.toString());
            }
        }
        return face;
    }

    private static void nothingElseIsSeen() {
        Class<?> mill = Kerfhall.class;
        Check.due("modifiers", Modifier.toString(mill.getModifiers()), "public final");
        Check.due("constructors", mill.getDeclaredConstructors().length, 1);
        TreeSet<String> open = new TreeSet<>();
        for (Method call : mill.getDeclaredMethods()) {
            if (Modifier.isPublic(call.getModifiers())) {
                open.add(call.getName());
            }
        }
        List<Method> all = new ArrayList<>(Arrays.asList(mill.getDeclaredMethods()));
        for (Class<?> inside : mill.getDeclaredClasses()) {
            all.addAll(Arrays.asList(inside.getDeclaredMethods()));
        }
        for (Method call : all) {
            boolean isTwice = !Modifier.isPublic(call.getModifiers()) && open.contains(call.getName());
            Check.due("a second " + call.getName(), isTwice, false);
        }
        for (Class<?> inside : mill.getDeclaredClasses()) {
            Check.due(inside + " is private", Modifier.isPrivate(inside.getModifiers()), true);
            Check.due(inside + " is static", Modifier.isStatic(inside.getModifiers()), true);
        }
    }

    private static void sizesAreKept() {
        List<Class<?>> all = new ArrayList<>(Arrays.asList(Kerfhall.class.getDeclaredClasses()));
        all.add(Kerfhall.class);
        Check.due("at most 12 classes", all.size() <= 12, true);
        for (Class<?> each : all) {
            int fields = 0;
            for (Field field : each.getDeclaredFields()) {
                boolean isStatic = Modifier.isStatic(field.getModifiers());
                fields += isStatic ? 0 : 1;
                boolean isConstant = field.getType().isPrimitive() || field.getType() == String.class;
                Check.due(field + " is a constant", !isStatic || Modifier.isFinal(field.getModifiers()) && isConstant, true);
            }
            Check.due(each + " has at most 20 fields", fields <= 20, true);
            for (Method call : each.getDeclaredMethods()) {
                Check.due(call + " has at most 7 parameters", call.getParameterCount() <= 7, true);
            }
        }
    }

    private static void methodsAreShort() {
        Pattern head = Pattern.compile("^( {4}| {8})(?!return |throw |new |else )(private |public |static )*"
                + "([\\w<>\\[\\]]+ )?\\w+\\(.*");
        String end = null;
        int start = 0;
        int methods = 0;
        String[] lines = read(SOURCE).split("\n");
        for (int i = 0; i < lines.length; i++) {
            Matcher found = head.matcher(lines[i]);
            if (end == null && found.matches()) {
                end = found.group(1) + "}";
                start = i;
                methods++;
            }
            if (lines[i].equals(end)) {
                Check.due("lines of " + lines[start], i - start < 60, true);
                end = null;
            }
        }
        Check.due("methods are found", methods > 100, true);
    }

    private static void onlyAllowedWords() {
        String code = read(SOURCE).replaceAll("(?s)/\\*.*?\\*/", "").replaceAll("//[^\n]*", "")
                .replaceAll("\"[^\"\n]*\"", "\"\"");
        TreeSet<String> imports = new TreeSet<>();
        Matcher line = Pattern.compile("(?m)^import (.*);$").matcher(code);
        while (line.find()) {
            imports.add(line.group(1));
        }
        Check.due("imports", imports.toString(), "[java.util.ArrayList, java.util.NoSuchElementException]");
        String[] banned = {"->", "::", "\\bcatch\\b", "\\btry\\b", "\\bfinally\\b", "\\bassert\\b", "\\bsynchronized\\b",
            "\\bpackage\\b", "\\bprotected\\b", "\\bvolatile\\b", "\\binstanceof\\b", "\\bequals\\b", "\\bhashCode\\b",
            "\\btoString\\b", "Exact\\b", "\\bSystem\\b", "\\bThread\\b", "\\bstatic \\{", "\\bnull\\b"};
        for (String word : banned) {
            Check.due(word, Pattern.compile(word).matcher(code).find(), false);
        }
        Check.due("only ASCII", code.chars().allMatch(sign -> sign < 128), true);
    }

    public static void main(String[] args) {
        Check.due("the face", builtFace(), documentedFace());
        Check.due("members of the face", documentedFace().size(), 49);
        nothingElseIsSeen();
        sizesAreKept();
        methodsAreShort();
        onlyAllowedWords();
        Check.end("FaceTest");
    }
}
