import java.io.IOException;
import java.lang.reflect.Constructor;
import java.lang.reflect.Field;
import java.lang.reflect.Method;
import java.lang.reflect.Modifier;
import java.nio.file.Files;
import java.nio.file.Path;
import java.util.ArrayList;
import java.util.HashSet;
import java.util.List;
import java.util.Set;
import java.util.regex.Matcher;
import java.util.regex.Pattern;

/** Looks whether the class has just the document's face, and none of the words that LANGUAGE.md rules out. */
public final class LanguageTest {
    private static final int MOST_LINES_OF_A_METHOD = 60;
    private static final int MOST_PARAMETERS = 7;
    private static final int MOST_FIELDS = 20;
    private static final int MOST_CLASSES = 12;

    public static void main(String[] args) throws IOException {
        String source = Files.readString(Path.of("src/main/java/RateGate.java"));
        faceIsTheDocuments(source, Files.readString(Path.of("../shared/DOC.md")));
        nothingElseIsSeen();
        classesAreSmall();
        methodsAreShort(source);
        wordsAreAllowed(source);
        Answers.end();
    }

    private static void faceIsTheDocuments(String source, String document) {
        String plain = source.replaceAll("\\s+", " ");
        Matcher block = Pattern.compile("```java\n(.*?)```", Pattern.DOTALL).matcher(document);
        Answers.due("the document has a face", block.find(), true);
        int members = 0;
        for (String line : block.group(1).split("\n")) {
            String member = line.trim();
            if (member.startsWith("public")) {
                members++;
                String wanted = member.endsWith(");") || member.contains(") throws")
                        ? member.substring(0, member.length() - 1) + " {" : member;
                Answers.due("the face has " + member, plain.contains(wanted), true);
            }
        }
        int seen = plain.split("public ", -1).length - 1;
        Answers.due("the members and lines of the face", seen, members);
    }

    private static void nothingElseIsSeen() {
        Set<String> publicNames = new HashSet<>();
        for (Method method : RateGate.class.getDeclaredMethods()) {
            if (Modifier.isPublic(method.getModifiers())) {
                publicNames.add(method.getName());
            }
        }
        for (Class<?> inside : allClasses()) {
            for (Method method : inside.getDeclaredMethods()) {
                boolean isFace = inside == RateGate.class && Modifier.isPublic(method.getModifiers());
                boolean isFree = isFace || !publicNames.contains(method.getName());
                Answers.due(method + " bears no name of the face", isFree, true);
                boolean isHidden = inside != RateGate.class || Modifier.isPrivate(method.getModifiers());
                Answers.due(method + " is of the face or private", isFace || isHidden, true);
            }
        }
        for (Field field : RateGate.class.getDeclaredFields()) {
            boolean isConstant = Modifier.isStatic(field.getModifiers()) && Modifier.isFinal(field.getModifiers());
            boolean isRight = Modifier.isPublic(field.getModifiers()) ? isConstant : Modifier.isPrivate(field.getModifiers());
            Answers.due(field + " is a constant or private", isRight, true);
        }
    }

    private static List<Class<?>> allClasses() {
        List<Class<?>> all = new ArrayList<>();
        all.add(RateGate.class);
        for (Class<?> inside : RateGate.class.getDeclaredClasses()) {
            Answers.due(inside + " is static", Modifier.isStatic(inside.getModifiers()), true);
            Answers.due(inside + " is not public", Modifier.isPublic(inside.getModifiers()), false);
            all.add(inside);
        }
        return all;
    }

    private static void classesAreSmall() {
        List<Class<?>> all = allClasses();
        Answers.due("the classes are few", all.size() <= MOST_CLASSES, true);
        for (Class<?> inside : all) {
            int fields = 0;
            for (Field field : inside.getDeclaredFields()) {
                boolean isStatic = Modifier.isStatic(field.getModifiers());
                fields += isStatic ? 0 : 1;
                boolean isFinal = Modifier.isFinal(field.getModifiers());
                Answers.due(field + " is final if it is static", !isStatic || isFinal, true);
            }
            Answers.due("the fields of " + inside, fields <= MOST_FIELDS, true);
            for (Method method : inside.getDeclaredMethods()) {
                Answers.due("the parameters of " + method, method.getParameterCount() <= MOST_PARAMETERS, true);
            }
            for (Constructor<?> constructor : inside.getDeclaredConstructors()) {
                Answers.due("the parameters of " + constructor, constructor.getParameterCount() <= MOST_PARAMETERS, true);
            }
        }
    }

    private static void methodsAreShort(String source) {
        String[] lines = source.split("\n");
        for (int i = 0; i < lines.length; i++) {
            Answers.due("the length of line " + (i + 1), lines[i].length() <= 120, true);
            String margin = lines[i].substring(0, lines[i].length() - lines[i].stripLeading().length());
            if (lines[i].endsWith(") {") && margin.length() <= 8 && margin.length() > 0) {
                int end = i;
                while (end < lines.length && !lines[end].equals(margin + "}")) {
                    end++;
                }
                Answers.due("the lines of" + lines[i], end - i <= MOST_LINES_OF_A_METHOD, true);
            }
        }
    }

    private static void wordsAreAllowed(String source) {
        String code = source.replaceAll("/\\*(?s:.*?)\\*/", " ").replaceAll("//[^\n]*", " ").replaceAll("\"[^\"\n]*\"", "\"\"");
        String[] forbidden = {
            "->", "::", "@", "\\bpackage\\b", "\\bfinally\\b", "\\bcatch\\b", "\\bsynchronized\\b", "\\bassert\\b",
            "\\bprotected\\b", "\\bvolatile\\b", "\\bvar\\b", "\\bSystem\\.(?!arraycopy)", "\\bThread\\b", "\\bRandom\\b",
            "\\bObject\\b", "\\binstanceof\\b", "Exact\\b", "\\bString\\.", "\\bhashCode\\b", "\\btoString\\b(?!\\(\\))",
            "\\bstatic\\s*\\{", "\"\"\\s*\\+", "\\+\\s*\"\""
        };
        for (String word : forbidden) {
            Answers.due("the class has " + word, Pattern.compile(word).matcher(code).find(), false);
        }
        Matcher imports = Pattern.compile("import ([^;]*);").matcher(code);
        while (imports.find()) {
            String name = imports.group(1);
            boolean isAllowed = name.matches("java\\.util\\.(ArrayList|List|Arrays|Iterator|NoSuchElementException)");
            Answers.due("import " + name, isAllowed, true);
        }
        boolean isPlain = source.chars().allMatch(sign -> sign == '\n' || (sign >= 32 && sign < 127));
        Answers.due("the signs of the file", isPlain, true);
    }
}
