import java.lang.reflect.InvocationTargetException;
import java.lang.reflect.Method;
import java.util.ArrayList;
import java.util.Arrays;
import java.util.Comparator;
import java.util.List;
import java.util.Random;

/** Runs of drawn calls, each to the program and to the model; what they answer must be the same. */
public final class RandomRuns {
    private static final int CALLS = 512;
    private static final int RUNS = 300;

    private final Random random;
    private final PaidInFog program = new PaidInFog();
    private final Model model = new Model();
    private final List<String> told = new ArrayList<>();
    private final StringBuilder wrong = new StringBuilder();

    private static final List<Method> METHODS = Arrays.stream(Model.class.getDeclaredMethods())
        .filter(m -> java.lang.reflect.Modifier.isPublic(m.getModifiers()))
        .sorted(Comparator.comparing(Method::getName)).toList();

    private RandomRuns(long seed) {
        random = new Random(seed);
    }

    /** The first seed and how many runs, if they are told. */
    public static void main(String[] args) {
        long first = args.length > 0 ? Long.parseLong(args[0]) : 1;
        int runs = args.length > 1 ? Integer.parseInt(args[1]) : RUNS;
        int bad = 0;
        for (long seed = first; seed < first + runs && bad < 3; seed++) {
            RandomRuns run = new RandomRuns(seed);
            run.go();
            if (run.wrong.length() > 0) {
                bad++;
                System.out.println("run " + seed + " of drawn calls:\n" + run.wrong);
            }
        }
        System.out.println(runs + " runs of " + CALLS + " drawn calls, " + bad + " wrong");
        if (bad > 0) {
            System.exit(1);
        }
    }

    private void go() {
        int style = random.nextInt(4);
        for (int p = random.nextInt(9); p > 0 && style < 3; p--) {
            call("place", random.nextInt(7), random.nextInt(10), random.nextInt(100));
        }
        for (int b = random.nextInt(style == 2 ? 14 : 5); b > 0 && style < 3; b--) {
            call("bottle", random.nextInt(8), 1 + random.nextInt(99));
        }
        if (style == 1) {
            call("ask", 1, 12 + random.nextInt(7));
            call("ask", 2, 15 + random.nextInt(9));
        }
        while (told.size() < CALLS && wrong.length() == 0) {
            step();
        }
    }

    private void step() {
        int kind = random.nextInt(100);
        if (kind < 2) {
            tellLaw();
        } else if (kind < 4) {
            tellDay();
        } else if (kind < 5) {
            tellFogs();
        } else if (kind < 6) {
            tellCopy();
        } else if (kind < 8) {
            tellKinds();
        } else if (kind < 25) {
            call("does", mostly(0, 6));
        } else if (kind < 35) {
            settle();
        } else {
            anything();
        }
    }

    private void settle() {
        switch (random.nextInt(6)) {
            case 0 -> call("ask", random.nextInt(3), random.nextInt(24));
            case 1 -> call("ask", 6, random.nextInt(24));
            case 2 -> call("fog", place(), random.nextInt(100));
            case 3 -> call("bottle", place(), 1 + random.nextInt(99));
            case 4 -> call("ask", 0, random.nextInt(3) - 1);
            default -> call("ask", 3 + random.nextInt(3), random.nextInt(100));
        }
    }

    private void anything() {
        Method method = METHODS.get(random.nextInt(METHODS.size()));
        String name = method.getName();
        boolean isDear = name.equals("dear") || name.equals("ahead") || name.equals("lasts");
        if (isDear && random.nextInt(4) > 0) {
            return;
        }
        Object[] args = new Object[method.getParameterCount()];
        for (int i = 0; i < args.length; i++) {
            args[i] = method.getParameterTypes()[i] == long.class ? (Object) longer() : (Object) fitting(name, i);
        }
        answer(method, args);
    }

    private long longer() {
        return switch (random.nextInt(3)) {
            case 0 -> random.nextLong();
            case 1 -> (long) random.nextInt(7) + ((long) random.nextInt(3) << 32);
            default -> random.nextInt(140);
        };
    }

    private int place() {
        return mostly(0, model.status(0) - 1);
    }

    private int fitting(String name, int i) {
        String at = name + i;
        return switch (at) {
            case "row0", "set0", "copy0", "copy1", "element0", "show0", "holds0", "says0", "law0", "tells0", "judge0",
                "told0", "done0" -> mostly(0, random.nextBoolean() ? 7 : 2);
            case "row1", "by0", "latest0", "told2", "each0" -> mostly(0, 3);
            case "row2" -> random.nextInt(4) == 0 ? mostly(0, 160) : mostly(0, 12);
            case "set1", "element1", "copy2", "copy3", "copy4" -> mostly(0, 9);
            case "show1" -> mostly(-1, model.status(0) - 1);
            case "placeOf0", "fog0", "bottle0", "thick0", "thickest0", "act0" -> place();
            case "says1", "place0", "does0", "ask0" -> mostly(0, 6);
            case "place1" -> mostly(0, 9);
            case "place2", "fog1", "thick1", "strength1", "worthIn0", "where0", "keep1" -> mostly(0, 99);
            case "placeOf1" -> mostly(0, 4);
            case "ask1" -> mostly(-1, 24);
            case "bottle1" -> mostly(1, 99);
            case "bottleOf0", "strength0", "lasts0", "keep0" -> mostly(0, model.status(1) - 1);
            case "bottleOf1", "by2", "act1" -> mostly(0, 2);
            case "ahead0" -> mostly(1, 4);
            case "ahead1" -> mostly(-1, 3);
            case "by1", "best0", "latest1", "dear0" -> mostly(0, 48);
            case "latest2" -> random.nextBoolean() ? mostly(0, 99999) : model.status(4) + random.nextInt(60);
            case "tells1" -> mostly(0, 24);
            case "judge1", "told1", "done1" -> random.nextBoolean() ? mostly(0, 60) : mostly(0, 8);
            case "season0" -> mostly(1, random.nextInt(9) == 0 ? 200 : 6);
            case "trace0" -> mostly(0, 11);
            case "status0" -> mostly(0, 20);
            default -> random.nextInt(3) == 0 ? random.nextInt() : mostly(-20, 20);
        };
    }

    /** A number from low to high, or one that is not. */
    private int mostly(int low, int high) {
        if (high < low || random.nextInt(14) == 0) {
            int[] odd = {low - 1, high + 1, -1, Integer.MIN_VALUE, Integer.MAX_VALUE, 0, high, low};
            return odd[random.nextInt(odd.length)];
        }
        return low + random.nextInt(high - low + 1);
    }

    private String number(int low, int high) {
        int v = mostly(low, high);
        String digits = String.valueOf(Math.floorMod(v, 130));
        return random.nextInt(9) == 0 ? "0" + digits : digits;
    }

    private String item() {
        int last = Math.max(0, model.status(0) - 1);
        return switch (random.nextInt(14)) {
            case 0, 1 -> "place " + number(0, 6) + " " + number(0, 9) + " " + number(0, 99);
            case 2 -> "west";
            case 3 -> "calm";
            case 4 -> "east";
            case 5 -> "sun " + number(0, 18);
            case 6 -> "tender " + number(0, 23);
            case 7 -> "price " + number(1, 3) + " " + number(0, 99);
            case 8 -> "fog " + number(0, last) + " " + number(0, 99);
            case 9, 10 -> "bottle " + number(0, last) + " " + number(1, 99);
            default -> "hour " + number(0, 6);
        };
    }

    private void tellLaw() {
        StringBuilder law = new StringBuilder(item());
        for (int more = random.nextInt(4); more > 0; more--) {
            law.append(';').append(item());
        }
        if (random.nextInt(4) == 0) {
            String signs = "; 019plcx\u00e9";
            int at = random.nextInt(law.length());
            switch (random.nextInt(3)) {
                case 0 -> law.setCharAt(at, signs.charAt(random.nextInt(signs.length())));
                case 1 -> law.deleteCharAt(at);
                default -> law.setLength(at);
            }
        }
        int s = random.nextInt(8);
        int sort = random.nextInt(4);
        call("row", s, sort, law.length());
        for (int i = 0; i < law.length(); i++) {
            call("set", s, i, (long) law.charAt(i));
        }
        call("law", s);
        call("fault");
    }

    private void tellDay() {
        int s = random.nextInt(8);
        int n = random.nextInt(12);
        call("row", s, random.nextInt(4), n);
        for (int i = 0; i < n; i++) {
            int[] likely = {0, 1, 1, 1, 2, 3, 4, 5, 6};
            call("set", s, i, (long) likely[random.nextInt(likely.length)]);
        }
        for (int most = n; most >= 0; most--) {
            call("judge", s, most);
        }
        int fine = n;
        while (fine > 0 && model.judge(s, fine) != -1) {
            fine--;
        }
        for (int what = 0; what < 4; what++) {
            call("told", s, fine, what);
        }
        if (random.nextBoolean()) {
            call("done", s, fine);
        }
    }

    private void tellFogs() {
        int s = random.nextInt(8);
        int n = random.nextInt(4);
        int places = model.status(0);
        call("row", s, random.nextInt(4), places + random.nextInt(2));
        int wind = model.ask(0, random.nextInt(3) - 1);
        for (int p = 0; p < places; p++) {
            call("set", s, p, (long) model.thick(p, n));
        }
        model.ask(0, wind - 1);
        call("tells", s, n);
    }

    private void tellCopy() {
        int p = random.nextInt(8);
        int q = random.nextInt(8);
        int sort = random.nextInt(4);
        call("row", p, sort, 5);
        call("row", q, random.nextInt(6) == 0 ? random.nextInt(4) : sort, 7);
        for (int i = 0; i < 5; i++) {
            call("set", p, i, longer());
        }
        for (int i = 0; i < 4; i++) {
            call("copy", p, q, mostly(0, 3), mostly(0, 4), mostly(0, 3));
        }
        for (int i = 0; i < 7; i++) {
            call("element", q, i);
        }
    }

    private void tellKinds() {
        int s = random.nextInt(8);
        call("show", s, place());
        for (int kind = 0; kind < 7; kind++) {
            call("says", s, kind);
        }
    }

    private void call(String name, Object... args) {
        Method method = METHODS.stream().filter(m -> m.getName().equals(name)).findFirst().orElseThrow();
        answer(method, args);
    }

    private void answer(Method method, Object... args) {
        if (told.size() >= CALLS || wrong.length() > 0) {
            return;
        }
        String call = method.getName() + Arrays.toString(args);
        long due = modelAnswer(method, args);
        long got = programAnswer(method, args);
        told.add(call + " " + got);
        if (got != due) {
            told.forEach(line -> wrong.append("  ").append(line).append('\n'));
            wrong.append("  due is ").append(due).append('\n');
        }
    }

    private long modelAnswer(Method method, Object... args) {
        try {
            return ((Number) method.invoke(model, args)).longValue();
        } catch (InvocationTargetException e) {
            if (e.getCause() instanceof Model.Refusal refusal) {
                model.refusals[-refusal.number]++;
                return refusal.number + refusal.apart;
            }
            throw new IllegalStateException(method.getName() + Arrays.toString(args), e);
        } catch (IllegalAccessException e) {
            throw new IllegalStateException(e);
        }
    }

    private long programAnswer(Method method, Object... args) {
        try {
            Method own = PaidInFog.class.getMethod(method.getName(), method.getParameterTypes());
            return ((Number) own.invoke(program, args)).longValue();
        } catch (ReflectiveOperationException e) {
            throw new IllegalStateException(told + " " + method.getName() + Arrays.toString(args), e);
        }
    }
}
