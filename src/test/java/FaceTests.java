import java.io.IOException;
import java.lang.reflect.Constructor;
import java.lang.reflect.Field;
import java.lang.reflect.Method;
import java.lang.reflect.Modifier;
import java.nio.file.Files;
import java.nio.file.Path;
import java.util.ArrayList;
import java.util.List;
import java.util.Set;
import java.util.TreeSet;
import java.util.regex.Matcher;
import java.util.regex.Pattern;

/** The class has the document's face and no other, and keeps to what can be told of LANGUAGE.md from outside. */
public final class FaceTests {
    private static final List<String> wrong = new ArrayList<>();

    private FaceTests() {
    }

    public static void main(String[] args) throws IOException {
        face();
        statics();
        words();
        wrong.forEach(System.out::println);
        System.out.println("the face and the language, " + wrong.size() + " wrong");
        if (!wrong.isEmpty()) {
            System.exit(1);
        }
    }

    private static void must(boolean holds, String what) {
        if (!holds) {
            wrong.add(what);
        }
    }

    /** The lines of the public face in the document, as 'int row(int,int,int)'. */
    private static Set<String> documentedFace() throws IOException {
        Set<String> face = new TreeSet<>();
        Matcher line = Pattern.compile("^    public (int|long) (\\w+)\\(([^)]*)\\);", Pattern.MULTILINE)
            .matcher(Files.readString(Path.of("../shared/DOC.md")));
        while (line.find()) {
            String types = line.group(3).replaceAll(" \\w+(,|$)", "$1").replace(" ", "");
            face.add(line.group(1) + " " + line.group(2) + "(" + types + ")");
        }
        return face;
    }

    private static String shape(Method method) {
        List<String> types = new ArrayList<>();
        for (Class<?> type : method.getParameterTypes()) {
            types.add(type.getName());
        }
        return method.getReturnType().getName() + " " + method.getName() + "(" + String.join(",", types) + ")";
    }

    private static void face() throws IOException {
        Set<String> shapes = new TreeSet<>();
        Set<String> names = new TreeSet<>();
        for (Method method : PaidInFog.class.getDeclaredMethods()) {
            boolean isPublic = Modifier.isPublic(method.getModifiers());
            must(isPublic || Modifier.isPrivate(method.getModifiers()), method + " is neither public nor private");
            if (isPublic) {
                shapes.add(shape(method));
                names.add(method.getName());
            }
        }
        must(shapes.size() == 43, shapes.size() + " public methods");
        must(shapes.equals(documentedFace()), "the face is " + shapes);
        must(Modifier.isFinal(PaidInFog.class.getModifiers()), "the class is not final");
        Constructor<?>[] made = PaidInFog.class.getDeclaredConstructors();
        must(made.length == 1 && made[0].getParameterCount() == 0 && Modifier.isPublic(made[0].getModifiers()),
            "the constructor");
        noPrivateMethodBears(names, PaidInFog.class);
        for (Class<?> inner : PaidInFog.class.getDeclaredClasses()) {
            must(Modifier.isStatic(inner.getModifiers()), inner + " is not static");
            noPrivateMethodBears(names, inner);
        }
    }

    private static void noPrivateMethodBears(Set<String> names, Class<?> type) {
        for (Method method : type.getDeclaredMethods()) {
            must(Modifier.isPublic(method.getModifiers()) || !names.contains(method.getName()),
                method + " bears the name of a public one");
        }
    }

    private static void statics() {
        List<Class<?>> all = new ArrayList<>(List.of(PaidInFog.class.getDeclaredClasses()));
        all.add(PaidInFog.class);
        must(all.size() <= 12, "too many classes");
        for (Class<?> type : all) {
            int fields = 0;
            for (Field field : type.getDeclaredFields()) {
                boolean isStatic = Modifier.isStatic(field.getModifiers());
                fields += isStatic ? 0 : 1;
                must(!isStatic || Modifier.isFinal(field.getModifiers()), field + " is static and not final");
                boolean isNone = field.getName().equals("NONE") && Modifier.isPublic(field.getModifiers());
                must(isNone || Modifier.isPrivate(field.getModifiers()), field + " is not private");
            }
            must(fields <= 20, type + " has " + fields + " fields");
        }
    }

    private static void words() throws IOException {
        String source = Files.readString(Path.of("src/main/java/PaidInFog.java"));
        String code = source.replaceAll("(?s)/\\*.*?\\*/", "").replaceAll("//[^\n]*", "");
        String[] forbidden = {"throw", "try", "catch", "synchronized", "assert", "import", "package", "->", "::",
            "equals", "hashCode", "toString", "Thread", "Random"};
        for (String word : forbidden) {
            boolean isWord = Character.isLetter(word.charAt(0));
            Pattern pattern = Pattern.compile(isWord ? "\\b" + word + "\\b" : Pattern.quote(word));
            must(!pattern.matcher(code).find(), "the program says " + word);
        }
        must(source.chars().allMatch(sign -> sign < 128), "a sign above 127");
    }
}
