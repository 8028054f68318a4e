import java.io.IOException;
import java.lang.reflect.Constructor;
import java.lang.reflect.Field;
import java.lang.reflect.Method;
import java.lang.reflect.Modifier;
import java.nio.charset.StandardCharsets;
import java.nio.file.Files;
import java.nio.file.Path;
import java.util.ArrayList;
import java.util.Arrays;
import java.util.HashSet;
import java.util.List;
import java.util.Set;
import java.util.TreeSet;
import java.util.regex.Matcher;
import java.util.regex.Pattern;

/** The public face as the document writes it, and what of LANGUAGE.md can be seen in the text. */
public final class FaceTest {
    private static final String[] FACE = {
        "int valley(int, int, int, int)", "int likes(int, int, int)", "int like(int, int, int, int)",
        "int ofMaid(int, int)", "int law(int)", "int offer(int, int)", "int comes(int)",
        "int undo(int)", "long pairs()", "int asked(int, int, int, int, int, int)",
        "int sent(int, int)", "int firm(int)", "int brought()", "long worth(int, int, int, int)",
        "int reading(int, int, int, boolean)", "int back(int)", "int learnt(int, int, int)",
        "int kinds(int)", "int sheet(int, int, int)", "int lose(int)", "int put(int, int, int)",
        "long cell(int, int, int)", "int copy(int, int, int, int, int)", "int tell(int)",
        "int greet(int)", "int as(int, int)", "int trace()", "int fault()", "int many(int)",
    };
    private static int wrong;

    public static void main(String[] args) throws IOException, IllegalAccessException {
        methods();
        constants();
        members(ThreeRefusals.class);
        String source = Files.readString(Path.of("src/main/java/ThreeRefusals.java"),
            StandardCharsets.ISO_8859_1);
        signs(source);
        String code = withoutCommentsAndConstants(source);
        words(code);
        lengths(source);
        System.out.println(wrong + " faults of the face or of the language");
        if (wrong != 0) {
            System.exit(1);
        }
    }

    private static void must(boolean holds, String what) {
        if (!holds) {
            wrong++;
            System.out.println("not so: " + what);
        }
    }

    private static void methods() {
        Set<String> found = new TreeSet<>();
        for (Method method : ThreeRefusals.class.getDeclaredMethods()) {
            if (Modifier.isPublic(method.getModifiers())) {
                String types = Arrays.toString(method.getParameterTypes());
                found.add(method.getReturnType() + " " + method.getName()
                    + "(" + types.substring(1, types.length() - 1) + ")");
                must(method.getModifiers() == Modifier.PUBLIC, "plainly public: " + method);
            }
        }
        must(found.equals(new TreeSet<>(Arrays.asList(FACE))), "the methods are the face: " + found);
        must(ThreeRefusals.class.getModifiers() == (Modifier.PUBLIC | Modifier.FINAL), "class");
        Constructor<?>[] made = ThreeRefusals.class.getDeclaredConstructors();
        must(made.length == 1 && made[0].getParameterCount() == 0
            && made[0].getModifiers() == Modifier.PUBLIC, "the constructor");
    }

    private static void constants() throws IllegalAccessException {
        Set<String> found = new TreeSet<>();
        for (Field field : ThreeRefusals.class.getDeclaredFields()) {
            if (Modifier.isPublic(field.getModifiers())) {
                found.add(field.getType() + " " + field.getName() + " " + field.get(null));
                must(field.getModifiers() == (Modifier.PUBLIC | Modifier.STATIC | Modifier.FINAL),
                    "a constant: " + field);
            }
        }
        must(found.equals(new TreeSet<>(List.of("int UNKNOWN -1", "int OUTSIDE -2", "int STATE -3",
            "int FULL -4", "int NONE -9", "long LOST " + Long.MIN_VALUE))), "constants: " + found);
    }

    private static void members(Class<?> face) {
        Set<String> open = new HashSet<>();
        for (Method method : face.getDeclaredMethods()) {
            if (Modifier.isPublic(method.getModifiers())) {
                open.add(method.getName());
            } else {
                must(Modifier.isPrivate(method.getModifiers()), "private: " + method);
            }
        }
        for (Field field : face.getDeclaredFields()) {
            must(Modifier.isPublic(field.getModifiers()) || Modifier.isPrivate(field.getModifiers()),
                "public or private: " + field);
        }
        List<Class<?>> all = new ArrayList<>(List.of(face.getDeclaredClasses()));
        must(all.size() <= 12, "at most twelve classes");
        all.add(face);
        for (Class<?> one : all) {
            must(one == face || Modifier.isStatic(one.getModifiers()), "static: " + one);
            fields(one);
            for (Method method : one.getDeclaredMethods()) {
                must(!method.isSynthetic(), "of the source: " + method);
                must(method.getParameterCount() <= 7, "seven parameters: " + method);
                must(one == face && Modifier.isPublic(method.getModifiers())
                    || !open.contains(method.getName()), "a name of its own: " + method);
            }
        }
    }

    private static void fields(Class<?> one) {
        int held = 0;
        for (Field field : one.getDeclaredFields()) {
            boolean isStatic = Modifier.isStatic(field.getModifiers());
            must(!isStatic || Modifier.isFinal(field.getModifiers()), "final: " + field);
            held += isStatic ? 0 : 1;
        }
        must(held <= 20, "at most twenty fields: " + one);
    }

    private static void signs(String source) {
        for (int i = 0; i < source.length(); i++) {
            char sign = source.charAt(i);
            must(sign == '\n' || sign >= 32 && sign < 127, "a plain sign at " + i);
        }
        must(!source.contains("\\u"), "no sign by its number");
        must(!Pattern.compile("\\bpackage\\b").matcher(source).find(), "no package line");
    }

    private static String withoutCommentsAndConstants(String source) {
        String plain = source.replaceAll("(?s)/\\*.*?\\*/", " ").replaceAll("//[^\n]*", " ");
        return plain.replaceAll("'[^']'", "0").replaceAll("\"[^\"]*\"", "S");
    }

    private static void words(String code) {
        String[] forbidden = {
            "throw", "throws", "try", "catch", "finally", "synchronized", "assert", "volatile",
            "transient", "native", "strictfp", "var", "yield", "equals", "hashCode", "toString",
            "Exact", "System\\.(?!arraycopy)\\w+", "Random", "Thread", "Object", "Class",
            "Exception", "Error", "Throwable", "float", "double", "static \\{",
        };
        for (String word : forbidden) {
            must(!Pattern.compile("\\b" + word + "\\b").matcher(code).find(), "without " + word);
        }
        for (String sign : new String[] {"->", "::", "@", "..."}) {
            must(!code.contains(sign), "without " + sign);
        }
        Matcher imports = Pattern.compile("import ([\\w.]+);").matcher(code);
        while (imports.find()) {
            must(imports.group(1).equals("java.util.Arrays"), "no import of " + imports.group(1));
        }
    }

    /** Methods of at most sixty lines, seen by how deep their lines stand. */
    private static void lengths(String source) {
        String[] lines = source.split("\n");
        int begun = 0;
        for (int i = 0; i < lines.length; i++) {
            must(lines[i].length() <= 110, "a line of moderate length: " + (i + 1));
            if (lines[i].matches(" {4,8}[^ /*}].*\\) \\{")) {
                begun = i;
            }
            if (lines[i].matches(" {4,8}\\}")) {
                must(i - begun <= 60, "a short method at line " + (begun + 1));
            }
        }
    }
}
