import java.io.IOException;
import java.lang.reflect.Constructor;
import java.lang.reflect.Field;
import java.lang.reflect.Method;
import java.lang.reflect.Modifier;
import java.nio.file.Files;
import java.nio.file.Path;
import java.util.ArrayList;
import java.util.Arrays;
import java.util.List;
import java.util.TreeSet;
import java.util.regex.Matcher;
import java.util.regex.Pattern;

/** The class has the document's face and no more, and keeps to the rules that can be read off its text. */
public final class PairScalesForm {
    private static final Path SOURCE = Path.of("src/main/java/PairScales.java");
    private static final String[] FACE = {
        "boolean can()", "boolean even()", "boolean say(int, int, int, int)", "boolean span(int, int, int)",
        "boolean unsay(int, int)", "boolean unspan(int, int)", "int bound(int, int, int)", "int count(int)",
        "int few()", "int least(int)", "int left()", "int order(int, int)", "int row(int, int)",
        "int said(int, int, int)", "int trees()", "int worst(int)",
    };
    private static int wrong = 0;

    private static void due(boolean holds, String what) {
        if (!holds) {
            wrong++;
            System.out.println("not as due: " + what);
        }
    }

    private static String types(Class<?>[] types) {
        List<String> names = new ArrayList<>();
        for (Class<?> type : types) {
            names.add(type.getSimpleName());
        }
        return "(" + String.join(", ", names) + ")";
    }

    private static void face() throws ReflectiveOperationException {
        Class<?> face = PairScales.class;
        due(Modifier.isPublic(face.getModifiers()) && Modifier.isFinal(face.getModifiers()), "public and final");
        due(face.getSuperclass() == Object.class && face.getInterfaces().length == 0, "no class above it");
        TreeSet<String> methods = new TreeSet<>();
        for (Method method : face.getDeclaredMethods()) {
            if (Modifier.isPrivate(method.getModifiers())) {
                due(Arrays.stream(FACE).noneMatch(known -> known.contains(" " + method.getName() + "(")),
                    "no private method with a public name: " + method.getName());
            } else {
                due(!Modifier.isStatic(method.getModifiers()) && Modifier.isPublic(method.getModifiers()),
                    "public and of the object: " + method.getName());
                methods.add(method.getReturnType().getSimpleName() + " " + method.getName()
                    + types(method.getParameterTypes()));
            }
        }
        due(methods.equals(new TreeSet<>(Arrays.asList(FACE))), "the methods: " + methods);
        Constructor<?>[] constructors = face.getDeclaredConstructors();
        due(constructors.length == 1 && Modifier.isPublic(constructors[0].getModifiers())
            && types(constructors[0].getParameterTypes()).equals("(int)"), "one public constructor");
        for (Field field : face.getDeclaredFields()) {
            due(Modifier.isPrivate(field.getModifiers()) || field.getName().equals("NONE"), "private: " + field);
        }
        Field none = face.getDeclaredField("NONE");
        due(none.getModifiers() == (Modifier.PUBLIC | Modifier.STATIC | Modifier.FINAL)
            && none.getType() == int.class && none.getInt(null) == -1, "the constant NONE");
        for (Class<?> inside : face.getDeclaredClasses()) {
            due(Modifier.isStatic(inside.getModifiers()), "static: " + inside);
            for (Field field : inside.getDeclaredFields()) {
                due(!Modifier.isStatic(field.getModifiers()) || Modifier.isFinal(field.getModifiers()),
                    "no static state: " + field);
            }
        }
    }

    private static void text() throws IOException {
        String source = Files.readString(SOURCE);
        String code = source.replaceAll("(?s)/\\*.*?\\*/", "").replaceAll("//[^\n]*", "");
        for (String word : new String[] {"throw", "throws", "try", "catch", "synchronized", "assert", "package",
            "System\\s*\\.\\s*(?!arraycopy)\\w+", "Random", "Thread", "\\w+Exact", "double", "float", "->", "::"}) {
            boolean named = Character.isLetter(word.charAt(0)) || word.charAt(0) == '\\';
            Matcher found = Pattern.compile(named ? "\\b(?:" + word + ")\\b" : word).matcher(code);
            due(!found.find(), "without " + word);
        }
        Matcher imports = Pattern.compile("import\\s+([^;]+);").matcher(code);
        while (imports.find()) {
            due(imports.group(1).equals("java.util.Arrays"), "no import of " + imports.group(1));
        }
        due(!Pattern.compile("\\bwhile\\b").matcher(code).find(), "each loop has a counter");
        due(!Pattern.compile("\\bstatic\\s*\\{").matcher(code).find(), "no static block");
    }

    public static void main(String[] args) throws Exception {
        face();
        text();
        System.out.println(wrong == 0 ? "the form is as due" : wrong + " rules are not kept");
        if (wrong != 0) {
            System.exit(1);
        }
    }
}
