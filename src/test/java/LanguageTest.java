import java.io.IOException;
import java.lang.reflect.Constructor;
import java.lang.reflect.Field;
import java.lang.reflect.Method;
import java.lang.reflect.Modifier;
import java.nio.file.Files;
import java.nio.file.Path;
import java.util.ArrayList;
import java.util.Arrays;
import java.util.List;
import java.util.Set;
import java.util.TreeSet;
import java.util.regex.Matcher;
import java.util.regex.Pattern;

/** The face of the document, and those rules of LANGUAGE.md that can be read off the class and its source. */
public final class LanguageTest {
    private static int wrong = 0;

    public static void main(String[] args) throws IOException {
        String source = bare(Files.readString(Path.of("src/main/java/ScaleForge.java")));
        Set<String> face = face(Files.readString(Path.of("../shared/DOC.md")));
        faceIsThere(face);
        membersAreHidden(face);
        fieldsAreFew();
        wordsAreAllowed(source);
        libraryIsAllowed(source);
        methodsAreShort(source);
        System.out.println(wrong == 0 ? "the class keeps to the language" : wrong + " rules are broken");
        if (wrong != 0) {
            System.exit(1);
        }
    }

    private static void check(boolean holds, String rule) {
        if (!holds) {
            wrong++;
            System.out.println(rule);
        }
    }

    /** The source without comments and texts. */
    private static String bare(String source) {
        return source.replaceAll("(?s)/\\*.*?\\*/", "").replaceAll("//[^\n]*", "").replaceAll("\"[^\"\n]*\"", "\"\"");
    }

    private static Set<String> face(String document) {
        Set<String> found = new TreeSet<>();
        Matcher line = Pattern.compile("    public (\\w+) (\\w+)\\(([^)]*)\\);").matcher(document);
        while (line.find()) {
            String types = line.group(3).replaceAll("(\\w+) \\w+", "$1").replace(" ", "");
            found.add(line.group(1) + " " + line.group(2) + "(" + types + ")");
        }
        return found;
    }

    private static void faceIsThere(Set<String> face) {
        check(face.size() == 67, "the document's face was not read: " + face.size());
        Set<String> there = new TreeSet<>();
        for (Method method : ScaleForge.class.getDeclaredMethods()) {
            if (!Modifier.isPrivate(method.getModifiers())) {
                List<String> types = new ArrayList<>();
                for (Class<?> type : method.getParameterTypes()) {
                    types.add(type.getName());
                }
                there.add(method.getReturnType() + " " + method.getName() + "(" + String.join(",", types) + ")");
                check(Modifier.isPublic(method.getModifiers()), "1: not public: " + method);
                check(!Modifier.isStatic(method.getModifiers()), "1: static: " + method);
            }
        }
        check(there.equals(face), "1: the face is " + there + "\n   and due is " + face);
        check(Modifier.isFinal(ScaleForge.class.getModifiers()), "1: the class is final");
        check(ScaleForge.NONE == -1, "1: NONE");
        Constructor<?>[] made = ScaleForge.class.getDeclaredConstructors();
        check(made.length == 1 && made[0].getParameterCount() == 0, "1: one constructor");
    }

    private static void membersAreHidden(Set<String> face) {
        Set<String> names = new TreeSet<>();
        for (String method : face) {
            names.add(method.replaceAll("\\w+ (\\w+)\\(.*", "$1"));
        }
        for (Field field : ScaleForge.class.getDeclaredFields()) {
            check(Modifier.isPrivate(field.getModifiers()) || field.getName().equals("NONE"), "1: " + field);
        }
        for (Method method : ScaleForge.class.getDeclaredMethods()) {
            check(Modifier.isPublic(method.getModifiers()) || !names.contains(method.getName()), "1: name " + method);
        }
        for (Class<?> inside : ScaleForge.class.getDeclaredClasses()) {
            check(Modifier.isStatic(inside.getModifiers()), "2: " + inside);
            check(!Modifier.isPublic(inside.getModifiers()), "1: " + inside);
            for (Method method : inside.getDeclaredMethods()) {
                check(!names.contains(method.getName()), "1: name " + method);
            }
        }
    }

    private static void fieldsAreFew() {
        List<Class<?>> classes = new ArrayList<>(Arrays.asList(ScaleForge.class.getDeclaredClasses()));
        classes.add(ScaleForge.class);
        check(classes.size() <= 12, "11: classes: " + classes.size());
        Set<String> constants = Set.of("int", "long", "boolean", "char", "java.lang.String", "[I", "[J", "[C", "[B");
        for (Class<?> one : classes) {
            int many = 0;
            for (Field field : one.getDeclaredFields()) {
                if (Modifier.isStatic(field.getModifiers())) {
                    check(Modifier.isFinal(field.getModifiers()), "5: " + field);
                    check(constants.contains(field.getType().getName()), "5: " + field);
                } else {
                    many++;
                }
            }
            check(many <= 20, "11: fields of " + one + ": " + many);
        }
    }

    private static void wordsAreAllowed(String source) {
        String[] words = {"throw", "throws", "try", "catch", "finally", "synchronized", "assert", "protected", "import",
            "package", "native", "volatile", "transient", "strictfp", "super", "var", "yield", "Object"};
        for (String word : words) {
            check(!Pattern.compile("\\b" + word + "\\b").matcher(source).find(), "the word " + word);
        }
        check(!source.contains("->") && !source.contains("::"), "2: a lambda or a method reference");
        check(!source.contains("@"), "an annotation");
        check(source.chars().allMatch(sign -> sign < 128), "4: signs 1 to 127");
    }

    private static void libraryIsAllowed(String source) {
        Set<String> allowed = Set.of("Math.floorMod", "Math.floorDiv", "Math.abs", "Math.min", "Math.max",
            "Long.bitCount", "System.arraycopy");
        Matcher call = Pattern.compile("\\b(Math|Long|Integer|System|Arrays|String|StringBuilder)\\.(\\w+)").matcher(source);
        while (call.find()) {
            check(allowed.contains(call.group()), "4: " + call.group());
        }
        Matcher text = Pattern.compile("\\b(\\w+)\\.(charAt|length)\\(\\)?").matcher(source);
        while (text.find()) {
            check(Set.of("word", "walk").contains(text.group(1)), "4: " + text.group());
        }
    }

    private static void methodsAreShort(String source) {
        Matcher head = Pattern.compile("\n( +)(?:[\\w\\[\\]]+ )+(\\w+)\\(([^)]*)\\) \\{\n").matcher(source);
        int methods = 0;
        while (head.find()) {
            if (Set.of("if", "for", "while", "switch").contains(head.group(2)) || head.group().contains("else ")) {
                continue;
            }
            methods++;
            int end = source.indexOf("\n" + head.group(1) + "}\n", head.end() - 1);
            long lines = source.substring(head.start() + 1, end).lines().count() + 1;
            check(lines <= 60, "11: " + head.group(2) + " has " + lines + " lines");
            check(head.group(3).split(",").length <= 7, "11: " + head.group(2) + " takes too many");
        }
        check(methods > 150, "methods were not read: " + methods);
    }
}
