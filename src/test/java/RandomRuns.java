import java.lang.reflect.InvocationTargetException;
import java.lang.reflect.Method;
import java.util.ArrayList;
import java.util.Arrays;
import java.util.Comparator;
import java.util.List;
import java.util.Random;

/** Runs of calls by fixed seeds: LeastWords answers and throws what Model does. */
public final class RandomRuns {
    private static final int RUNS = Integer.getInteger("runs", 400);
    private static final int FIRST = Integer.getInteger("first", 1);
    private static int wrong = 0;
    private static final int[] tally = new int[100];

    public static void main(String[] args) {
        List<Method> face = new ArrayList<>();
        for (Method m : Model.class.getDeclaredMethods()) {
            if (java.lang.reflect.Modifier.isPublic(m.getModifiers())) {
                face.add(m);
            }
        }
        face.sort(Comparator.comparing(Method::getName));
        if (face.size() != 48) {
            System.out.println("the model's face has " + face.size() + " methods");
            System.exit(1);
        }
        for (int seed = FIRST; seed < FIRST + RUNS && wrong < 20; seed++) {
            new RandomRuns(seed, face).run();
        }
        if (Boolean.getBoolean("tally")) {
            System.out.println(Arrays.toString(tally));
        }
        System.out.println(wrong == 0 ? "all answers are the model's" : wrong + " answers are not the model's");
        System.exit(wrong == 0 ? 0 : 1);
    }

    private final int seed;
    private final Random random;
    private final List<Method> face;
    private final LeastWords real = new LeastWords();
    private final Model model = new Model();
    private final List<String> log = new ArrayList<>();

    private RandomRuns(int seed, List<Method> face) {
        this.seed = seed;
        this.random = new Random(seed);
        this.face = face;
    }

    private void run() {
        int before = wrong;
        for (int i = 0; i < 150 && wrong == before; i++) {
            if (i == 3 || random.nextInt(40) == 0) {
                TextMaker maker = new TextMaker(random);
                feedText(random.nextInt(5) == 0 ? maker.table() : maker.text());
            }
            Method m = face.get(random.nextInt(face.size()));
            if (!m.getName().equals("feed") && !m.getName().equals("hall") || random.nextInt(10) == 0) {
                compare(m, arguments(m));
            }
        }
    }

    private void feedText(String text) {
        byte[] bytes = text.getBytes(java.nio.charset.StandardCharsets.ISO_8859_1);
        int n = Math.min(bytes.length, 900);
        byte[] padded = Arrays.copyOf(bytes, (n + 19) / 20 * 20);
        java.nio.ByteBuffer all = java.nio.ByteBuffer.wrap(padded);
        int had = model.count(12);
        if (had > 0) {
            compare("hall", 0);
        }
        while (all.remaining() >= 20) {
            compare("feed", all.getInt(), all.getInt(), all.getInt(), all.getInt(), all.getInt());
        }
        log.add("-- " + text.substring(0, n));
        compare("hall", n);
        compare("fault", 0);
        compare("fault", 1);
    }

    private void compare(String name, Object... arguments) {
        for (Method m : face) {
            if (m.getName().equals(name)) {
                compare(m, arguments);
            }
        }
    }

    private Object[] arguments(Method m) {
        Class<?>[] types = m.getParameterTypes();
        Object[] given = new Object[types.length];
        for (int i = 0; i < types.length; i++) {
            if (types[i] == boolean.class) {
                given[i] = random.nextBoolean();
            } else if (types[i] == long.class) {
                given[i] = value();
            } else {
                given[i] = number(m.getName(), i);
            }
        }
        return given;
    }

    private long value() {
        switch (random.nextInt(8)) {
            case 0: return random.nextLong();
            case 1: return -1;
            case 2: return 3000;
            case 3: return 2000 + random.nextInt(15) - (random.nextInt(10) == 0 ? 1 : 0);
            case 4: return random.nextInt(1500);
            default: return random.nextInt(Math.max(1, model.count(2))) * 100
                + random.nextInt(model.count(1)) * 10 + random.nextInt(10);
        }
    }

    private int number(String name, int i) {
        if (random.nextInt(60) == 0) {
            return new int[] {-1, Integer.MIN_VALUE, Integer.MAX_VALUE, 99, 31, 16384, 1 << 20}[random.nextInt(7)];
        }
        boolean description = name.equals("claim") && i == 1
            || List.of("fits", "tells", "cost", "rank", "shorter").contains(name);
        if (description) {
            return description(name);
        }
        if (name.equals("common")) {
            return inBits() & random.nextInt(1 << 14) | (random.nextInt(10) == 0 ? 1 << random.nextInt(15) : 0);
        }
        if (name.equals("night")) {
            return i == 0 ? random.nextInt() : random.nextInt(10) == 0 ? random.nextInt(33) : 1 + random.nextInt(4);
        }
        if (name.equals("hardened") && i == 1) {
            return random.nextInt(random.nextInt(10) == 0 ? 101 : 12);
        }
        if (name.equals("fresh") && i == 1) {
            return random.nextBoolean() ? 0 : 9 + random.nextInt(8);
        }
        if (name.equals("change")) {
            return random.nextInt(i == 0 ? model.count(2) + 1 : i == 1 ? model.count(1) + 1 : 11);
        }
        if (name.equals("tray") || name.equals("write") || name.equals("judge") || name.equals("perform")
                || name.equals("copy")) {
            return i == 0 ? random.nextInt(random.nextInt(10) == 0 ? 5 : 2)
                : i == 1 ? random.nextInt(5) : random.nextInt(random.nextInt(5) == 0 ? 33 : 6);
        }
        if (name.equals("undo")) {
            return 1 + random.nextInt(random.nextInt(10) == 0 ? 11 : 3);
        }
        if (name.equals("feed")) {
            return random.nextInt();
        }
        if (name.equals("mark") && i == 1) {
            return random.nextInt(model.count(1) + 1);
        }
        if (name.equals("count")) {
            return random.nextInt(14);
        }
        if (name.equals("word") && i == 0 || name.equals("holds") && i == 0) {
            return random.nextInt(model.count(4) + 1);
        }
        if (i == 1 && !name.equals("holds") && !name.equals("differ")) {
            return random.nextInt(5);
        }
        int chests = model.count(2);
        return random.nextInt(10) == 0 ? chests : random.nextInt(Math.max(1, chests));
    }

    private int inBits() {
        int bits = 0;
        for (int c = 0; c < model.count(2); c++) {
            bits |= model.chest(c, 0) << c;
        }
        return bits;
    }

    private int description(String name) {
        int words = model.count(4);
        int chests = model.count(2);
        if (chests > 0 && random.nextInt(3) > 0) {
            int c = name.equals("claim") && model.count(7) >= 0 ? model.count(7) : random.nextInt(chests);
            int set = random.nextInt(1 << words) | (random.nextBoolean() ? random.nextInt(1 << words) : 0);
            int truth = model.chest(c, 1);
            return set & truth | (set & ~truth) << 10;
        }
        int said = random.nextInt(1 << words);
        int denied = random.nextInt(1 << words) & (random.nextInt(8) == 0 ? -1 : ~said);
        return said | denied << 10;
    }

    private void compare(Method m, Object[] arguments) {
        String call = m.getName() + Arrays.toString(arguments);
        log.add(call);
        String due = answer(m, model, arguments);
        String got;
        try {
            got = answer(LeastWords.class.getMethod(m.getName(), m.getParameterTypes()), real, arguments);
        } catch (NoSuchMethodException e) {
            got = "no such method";
        }
        tally[face.indexOf(m)] += due.startsWith("class") ? 0 : 1;
        if (!due.equals(got)) {
            wrong++;
            System.out.println("seed " + seed + ": " + call + " answered " + got + ", the model " + due);
            if (wrong < 3) {
                log.forEach(x -> System.out.println("    " + x));
            }
        }
    }

    private static String answer(Method m, Object on, Object[] arguments) {
        try {
            m.setAccessible(true);
            return String.valueOf(m.invoke(on, arguments));
        } catch (InvocationTargetException e) {
            return e.getCause().getClass().toString();
        } catch (IllegalAccessException e) {
            return "not to be called";
        }
    }
}
