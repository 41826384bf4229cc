import java.io.IOException;
import java.lang.reflect.Constructor;
import java.lang.reflect.Field;
import java.lang.reflect.Method;
import java.lang.reflect.Modifier;
import java.nio.file.Files;
import java.nio.file.Path;
import java.util.List;
import java.util.TreeSet;
import java.util.regex.Matcher;
import java.util.regex.Pattern;

/**
 * Holds the class against the face in ../shared/DOC.md, and the source against those rules of
 * ../shared/LANGUAGE.md that can be read off its text.
 */
public final class FaceAndForm {
    private static final Path DOCUMENT = Path.of("../shared/DOC.md");
    private static final Path SOURCE = Path.of("src/main/java/Nocommaplane.java");

    private int wrong;

    public static void main(String[] args) throws Exception {
        FaceAndForm test = new FaceAndForm();
        test.checkFace();
        test.checkMembers();
        test.checkText();
        test.checkMethods();
        System.out.println("face and form: " + test.wrong + " wrong");
        if (test.wrong > 0) {
            System.exit(1);
        }
    }

    private void complain(String text) {
        wrong++;
        System.out.println(text);
    }

    private void checkFace() throws IOException {
        TreeSet<String> due = new TreeSet<>();
        Pattern line = Pattern.compile("^ {4}public (\\w+) (\\w+)\\(([^)]*)\\)(?: throws ([^;]*))?;$", Pattern.MULTILINE);
        Matcher found = line.matcher(Files.readString(DOCUMENT));
        while (found.find()) {
            String types = found.group(3).replaceAll("(\\w+) \\w+", "$1");
            String thrown = found.group(4) == null ? "" : String.join(", ", new TreeSet<>(List.of(found.group(4).split(", "))));
            due.add(found.group(1) + " " + found.group(2) + "(" + types + ") " + thrown);
        }
        TreeSet<String> there = new TreeSet<>();
        for (Method method : Nocommaplane.class.getDeclaredMethods()) {
            if (!Modifier.isPrivate(method.getModifiers()) && !method.isSynthetic()) {
                there.add(tell(method));
            }
        }
        if (due.size() != 57 || !due.equals(there)) {
            complain("the face is " + there + ", due is " + due);
        }
    }

    private static String tell(Method method) {
        TreeSet<String> thrown = new TreeSet<>();
        for (Class<?> type : method.getExceptionTypes()) {
            thrown.add(type.getSimpleName());
        }
        StringBuilder types = new StringBuilder();
        for (Class<?> type : method.getParameterTypes()) {
            types.append(types.length() > 0 ? ", " : "").append(type.getSimpleName());
        }
        return method.getReturnType().getSimpleName() + " " + method.getName() + "(" + types + ") "
            + String.join(", ", thrown);
    }

    private void checkMembers() {
        int modifiers = Nocommaplane.class.getModifiers();
        if (!Modifier.isPublic(modifiers) || !Modifier.isFinal(modifiers)) {
            complain("the class is not public and final");
        }
        Constructor<?>[] constructors = Nocommaplane.class.getDeclaredConstructors();
        if (constructors.length != 1 || constructors[0].getParameterCount() != 0
            || !Modifier.isPublic(constructors[0].getModifiers())) {
            complain("not just the one constructor");
        }
        checkFields(Nocommaplane.class);
        for (Field field : Nocommaplane.class.getDeclaredFields()) {
            if (!Modifier.isPrivate(field.getModifiers())) {
                complain("field " + field.getName() + " is not private");
            }
        }
        Class<?>[] inside = Nocommaplane.class.getDeclaredClasses();
        if (inside.length > 14) {
            complain("too many classes");
        }
        TreeSet<String> face = new TreeSet<>();
        for (Method method : Nocommaplane.class.getMethods()) {
            face.add(method.getName());
        }
        checkPrivate(Nocommaplane.class, face);
        for (Class<?> part : inside) {
            checkPrivate(part, face);
            checkFields(part);
            int shown = Modifier.PUBLIC | Modifier.PROTECTED;
            if ((part.getModifiers() & shown) != 0 || !Modifier.isStatic(part.getModifiers())) {
                complain(part + " is shown, or not static");
            }
        }
    }

    private void checkPrivate(Class<?> part, TreeSet<String> face) {
        for (Method method : part.getDeclaredMethods()) {
            if (Modifier.isPrivate(method.getModifiers()) && face.contains(method.getName())) {
                complain(part + ": a private method has the name " + method.getName());
            }
        }
    }

    private void checkFields(Class<?> part) {
        int fields = 0;
        for (Field field : part.getDeclaredFields()) {
            boolean fixed = Modifier.isStatic(field.getModifiers());
            fields += fixed ? 0 : 1;
            if (fixed && !field.isSynthetic() && !Modifier.isFinal(field.getModifiers())) {
                complain(part + ": static " + field.getName() + " is not final");
            }
        }
        if (fields > 24) {
            complain(part + " has " + fields + " fields");
        }
    }

    private void checkText() throws IOException {
        String text = Files.readString(SOURCE).replaceAll("(?s)/\\*.*?\\*/", "");
        String[] banned = {"\\bfinally\\b", "->", "::", "\\bassert\\b", "\\bsynchronized\\b", "Exact\\b", "\\bBigInteger\\b",
            "\\bThread\\b", "\\bRandom\\b", "currentTime", "nanoTime", "\" \\+|\\+ \"", "getMessage",
            "catch \\((ArrayIndexOutOfBounds|NullPointer|ClassCast|NegativeArraySize|ArrayStore)?Exception\\b"};
        for (String word : banned) {
            if (Pattern.compile(word).matcher(text).find()) {
                complain("the program has " + word);
            }
        }
        Matcher imported = Pattern.compile("^import (.*);$", Pattern.MULTILINE).matcher(text);
        while (imported.find()) {
            if (!imported.group(1).matches("java\\.util\\.(Arrays|ArrayList|List|Iterator|NoSuchElementException)")) {
                complain("the program imports " + imported.group(1));
            }
        }
        Matcher thrown = Pattern.compile("throw (.*)").matcher(text);
        while (thrown.find()) {
            if (!thrown.group(1).matches("new \\w+Exception\\((\"[^\"]*\")?\\);.*")) {
                complain("the program throws " + thrown.group(1));
            }
        }
    }

    private void checkMethods() throws IOException {
        String[] lines = Files.readString(SOURCE).split("\n");
        Pattern head = Pattern.compile("^( {4}| {8})(?!return|throw|else)[\\w\\[\\]]+ .*\\(.*|^( {8})[A-Z]\\w+\\(.*\\) \\{$");
        for (int i = 0; i < lines.length; i++) {
            String indent = lines[i].startsWith("        ") ? "        " : "    ";
            if (head.matcher(lines[i]).matches() && lines[i].endsWith("{")
                && !lines[i].trim().matches("(if|for|switch|\\}).*")) {
                int end = i;
                while (end < lines.length && !lines[end].equals(indent + "}")) {
                    end++;
                }
                if (end - i + 1 > 70) {
                    complain("line " + (i + 1) + ": a method of " + (end - i + 1) + " lines");
                }
            }
        }
    }
}
