import java.io.IOException;
import java.lang.reflect.Method;
import java.nio.file.Files;
import java.nio.file.Path;
import java.util.ArrayList;
import java.util.List;
import java.util.Set;
import java.util.TreeMap;
import java.util.TreeSet;
import java.util.regex.Matcher;
import java.util.regex.Pattern;

/** README.md says what is so: its examples are called, and its face is held against the document's promises. */
public final class ReadmeTests {
    private static final Pattern CODE = Pattern.compile("(?s)```java\n(.*?)```");
    private static final Pattern CALL = Pattern.compile("x\\.(\\w+)\\((.*)\\); +// (-?\\d+): .+");
    private static final Pattern TEXT = Pattern.compile("text\\(x, (\\d), \"(.*)\"\\);");
    private static final Pattern PROMISE =
        Pattern.compile("(?s)## Promise (\\d+): .*?\n\n`(?:int |long )?(\\w+\\([^)]*\\))`: (.*?)\n");
    private static final Pattern FACE = Pattern.compile("\\| `(\\w+\\([^)]*\\))` \\| (\\d+) \\| .+ \\|([-\\d ]*)\\|");
    private static final Pattern REFUSAL = Pattern.compile("-\\d+");

    private static final List<String> wrong = new ArrayList<>();

    private ReadmeTests() {
    }

    public static void main(String[] args) throws IOException, ReflectiveOperationException {
        String page = Files.readString(Path.of("README.md"));
        int calls = examples(page);
        face(page, Files.readString(Path.of("../shared/DOC.md")));
        refusalNumbers(page);
        wrong.forEach(System.out::println);
        System.out.println(calls + " calls of README.md and its face, " + wrong.size() + " wrong");
        if (!wrong.isEmpty()) {
            System.exit(1);
        }
    }

    private static void must(boolean holds, String what) {
        if (!holds) {
            wrong.add(what);
        }
    }

    /** All examples are one run on one object. */
    private static int examples(String page) throws ReflectiveOperationException {
        PaidInFog x = new PaidInFog();
        int calls = 0;
        Matcher code = CODE.matcher(page);
        while (code.find()) {
            for (String line : code.group(1).split("\n")) {
                Matcher text = TEXT.matcher(line);
                Matcher call = CALL.matcher(line);
                if (text.matches()) {
                    World.text(x, Integer.parseInt(text.group(1)), text.group(2));
                } else if (call.matches()) {
                    calls++;
                    long got = answer(x, call.group(1), call.group(2));
                    must(got == Long.parseLong(call.group(3)), "README.md: '" + line + "' answered " + got);
                } else {
                    must(line.equals("PaidInFog x = new PaidInFog();"), "README.md: '" + line + "' can't be read");
                }
            }
        }
        must(calls > 0, "README.md has no example");
        return calls;
    }

    private static long answer(PaidInFog x, String name, String told) throws ReflectiveOperationException {
        String[] texts = told.isEmpty() ? new String[0] : told.split(", ");
        for (Method method : PaidInFog.class.getMethods()) {
            if (method.getName().equals(name) && method.getParameterCount() == texts.length) {
                Object[] numbers = new Object[texts.length];
                for (int i = 0; i < texts.length; i++) {
                    int v = texts[i].equals("PaidInFog.NONE") ? PaidInFog.NONE : Integer.parseInt(texts[i]);
                    numbers[i] = method.getParameterTypes()[i] == long.class ? (Object) (long) v : (Object) v;
                }
                return ((Number) method.invoke(x, numbers)).longValue();
            }
        }
        throw new NoSuchMethodException(name);
    }

    /** The face of README.md and that of the document: each promise with its call and its refusals. */
    private static void face(String page, String document) {
        TreeMap<Integer, String> due = new TreeMap<>();
        Matcher promise = PROMISE.matcher(document);
        while (promise.find()) {
            String call = promise.group(2).replaceAll("(int|long) ", "");
            // what stands in brackets explains, and status() only counts refusals
            String refusals = promise.group(3).replaceAll("\\([^)]*\\)", "").replace("REFUSALS -1 to -7", "");
            due.put(Integer.valueOf(promise.group(1)), call + " " + numbers(refusals));
        }
        TreeMap<Integer, String> got = new TreeMap<>();
        Matcher row = FACE.matcher(page);
        while (row.find()) {
            got.put(Integer.valueOf(row.group(2)), row.group(1) + " " + numbers(row.group(3)));
        }
        must(due.size() == 44, "the document has " + due.size() + " promises");
        for (int number : due.keySet()) {
            must(due.get(number).equals(got.get(number)),
                "README.md, promise " + number + ": " + got.get(number) + ", due is " + due.get(number));
        }
        must(got.keySet().equals(due.keySet()), "README.md has the promises " + got.keySet());
    }

    private static Set<String> numbers(String text) {
        Set<String> found = new TreeSet<>();
        Matcher refusal = REFUSAL.matcher(text);
        while (refusal.find()) {
            found.add(refusal.group());
        }
        return found;
    }

    private static void refusalNumbers(String page) {
        String[] names = {"nobody", "other", "nothing", "below", "beyond", "wrong", "room"};
        for (int i = 0; i < names.length; i++) {
            must(page.contains("| -" + (i + 1) + " | " + names[i] + " | "), "README.md doesn't tell of -" + (i + 1));
        }
    }
}
