import java.lang.reflect.InvocationTargetException;
import java.lang.reflect.Method;
import java.lang.reflect.Modifier;
import java.nio.charset.StandardCharsets;
import java.util.ArrayList;
import java.util.Arrays;
import java.util.Comparator;
import java.util.List;
import java.util.Random;

/** Random runs of calls on RookHusting and on the Model: each answer must be the same. */
public final class ModelTest {
    private static final int RUNS = Integer.getInteger("runs", 400);
    private static final int CALLS = 480;

    private final Random random;
    private final RookHusting real = new RookHusting();
    private final Model model = new Model();
    private final List<Method> methods;
    private final List<String> log = new ArrayList<>();

    private ModelTest(long seed) {
        random = new Random(seed);
        methods = new ArrayList<>();
        for (Method m : RookHusting.class.getDeclaredMethods()) {
            if (Modifier.isPublic(m.getModifiers())) {
                methods.add(m);
            }
        }
        methods.sort(Comparator.comparing(Method::getName));
    }

    public static void main(String[] args) throws Exception {
        for (int seed = 0; seed < RUNS; seed++) {
            new ModelTest(seed).run();
        }
        for (int seed = 0; seed < RUNS; seed++) {
            new ModelTest(1000000 + seed).runTexts();
        }
        for (int seed = 0; seed < RUNS; seed++) {
            new ModelTest(2000000 + seed).runElections();
        }
        for (int method = 0; method < new ModelTest(0).methods.size(); method++) {
            for (int seed = 0; seed < 12; seed++) {
                new ModelTest(3000000 + seed).askFirst(method);
            }
        }
        Check.finish();
    }

    /** Many MEN, few VOTERS: elections that one VOTER turns. */
    private void runElections() throws Exception {
        StringBuilder text = new StringBuilder("hundred days 1 law ").append(random.nextInt(4)).append(" odds 0;");
        int men = 3 + random.nextInt(3);
        text.append("man frights 1 tires 1;".repeat(men));
        int voters = 2 + random.nextInt(6);
        for (int v = 0; v < voters; v++) {
            voter(text, men, random.nextInt(3) == 0 ? random.nextInt(men + 1) : men);
        }
        tell(text.toString());
        for (String name : List.of("plain", "swings", "beats", "rings")) {
            call(name);
        }
        for (int v = 0; v < voters; v++) {
            call("gains", v);
        }
        for (int m = 0; m < men; m++) {
            call("least", m);
            call("over", m, random.nextInt(men));
        }
        for (int law = 0; law < 4; law++) {
            int set = 1 + random.nextInt((1 << men) - 1);
            call("elects", set, law);
            call("votes", set, law, Integer.numberOfTrailingZeros(set));
        }
    }

    /** One call right behind an act, when nothing else was asked. */
    private void askFirst(int method) throws Exception {
        Method m = methods.get(method);
        tell(randomText());
        call("row", 0, 0, 0);
        call("speaks", 0, 1);
        call("puts", random.nextInt(2), random.nextInt(3) - 1);
        Object[] args = new Object[m.getParameterCount()];
        for (int i = 0; i < args.length; i++) {
            long v = m.getName().equals("gets") || m.getName().equals("rests") ? i % 2 : m.getName().equals("may") ? 0
                    : randomNumber(m.getName(), i);
            args[i] = m.getParameterTypes()[i] == long.class ? (Object) v : (Object) (int) v;
        }
        call(m.getName(), args);
    }

    private void run() throws Exception {
        int calls = 0;
        while (calls < CALLS) {
            int act = random.nextInt(100);
            if (calls == 0 || act < 1) {
                calls += tell(randomText());
            } else {
                randomCall();
                calls++;
            }
        }
    }

    private void runTexts() throws Exception {
        for (int i = 0; i < 8; i++) {
            call("end", 0);
            tell(spoil(randomText()));
            call("fault", 0);
            call("fault", 1);
            for (int what = 0; what <= 10; what++) {
                call("count", what);
            }
        }
    }

    private int tell(String text) throws Exception {
        byte[] bytes = text.getBytes(StandardCharsets.ISO_8859_1);
        call("end", 0);
        for (int from = 0; from < bytes.length; from += 20) {
            call("feed", Check.four(bytes, from), Check.four(bytes, from + 4), Check.four(bytes, from + 8),
                    Check.four(bytes, from + 12), Check.four(bytes, from + 16));
        }
        call("end", bytes.length);
        call("hundred");
        return bytes.length / 20 + 3;
    }

    private void randomCall() throws Exception {
        Method m = methods.get(random.nextInt(methods.size()));
        switch (m.getName()) {
            case "feed", "hundred", "end":
                if (random.nextInt(20) != 0) {
                    return;
                }
                break;
            case "anew", "back":
                if (random.nextInt(4) != 0) {
                    return;
                }
                break;
            case "may", "ask", "leaves":
                if (random.nextInt(4) != 0) {
                    see();
                    return;
                }
                break;
            default:
                break;
        }
        Object[] args = new Object[m.getParameterCount()];
        for (int i = 0; i < args.length; i++) {
            long v = randomNumber(m.getName(), i);
            args[i] = m.getParameterTypes()[i] == long.class ? (Object) v : (Object) (int) v;
        }
        call(m.getName(), args);
    }

    /** A row of what is truly so with somebody there, asked behind it. */
    private void see() throws Exception {
        int slot = random.nextInt(4);
        int seen = random.nextInt(3);
        int fields = Math.max(1, model.count(3));
        int days = Math.max(1, model.count(0));
        int asked = random.nextInt(fields);
        call("row", slot, random.nextInt(4), 3 * seen);
        int man = random.nextInt(6) - 1;
        call("image", 2);
        call("puts", asked, man);
        List<int[]> rows = new ArrayList<>();
        for (int i = 0; i < seen; i++) {
            int field = random.nextInt(fields);
            int day = random.nextInt(days + 1);
            rows.add(new int[] {field, day, model.rooks(field, day)});
        }
        call("back", 2);
        for (int i = 0; i < seen; i++) {
            for (int j = 0; j < 3; j++) {
                call("write", slot, 3 * i + j, (long) rows.get(i)[j]);
            }
        }
        call("may", slot, asked);
        call("ask", slot, asked);
        call("leaves", slot, asked);
    }

    private long randomNumber(String name, int i) {
        if (random.nextInt(60) == 0) {
            int[] wild = {Integer.MIN_VALUE, Integer.MAX_VALUE, -1000, -3, -2, -1, 5, 7, 16, 17, 31, 32, 60, 61, 300, 301};
            return wild[random.nextInt(wild.length)];
        }
        String key = name + i;
        switch (key) {
            case "votes0", "elects0":
                return random.nextInt(33);
            case "chance1", "mean0":
                return random.nextInt(9);
            case "chance2":
                return random.nextInt(4) == 0 ? random.nextInt(302) : random.nextInt(60);
            case "drawn0", "luck0":
                return random.nextBoolean() ? random.nextInt(2000000001) : 2000000000 + random.nextInt(2);
            case "luck1":
                return random.nextInt(22);
            case "rate1":
                return random.nextInt(42);
            case "row2":
                return random.nextInt(4) == 0 ? random.nextInt(64) - 2 : 3 * random.nextInt(5);
            case "write1", "paste1", "paste3", "paste4":
                return random.nextInt(10);
            case "write2":
                return random.nextInt(3) == 0 ? random.nextLong() : random.nextInt(20);
            case "puts1":
                return random.nextInt(7) - 1;
            case "count0":
                return random.nextInt(13) - 1;
            case "fear1", "rooks1", "corn1", "eaten1", "flies1", "speaks1", "all0", "black0", "richest0", "quiet0",
                    "flown0":
                return random.nextInt(Math.max(1, model.count(0)) + 2) - (random.nextInt(20) == 0 ? 1 : 0);
            default:
                if (key.endsWith("0") && !key.startsWith("feed")) {
                    return random.nextInt(Math.max(2, 1 + model.count(3 + 2 * random.nextInt(2))));
                }
                return random.nextInt(6);
        }
    }

    private void call(String name, Object... args) throws Exception {
        long got = ask(real, name, args);
        long want = ask(model, name, args);
        log.add(name + Arrays.toString(args) + " -> " + want);
        if (got != want) {
            for (String line : log.subList(Math.max(0, log.size() - 40), log.size())) {
                System.out.println("  " + line);
            }
        }
        Check.due(name + Arrays.toString(args), got, want);
    }

    private static long ask(Object object, String name, Object... args) throws Exception {
        for (Method m : object.getClass().getDeclaredMethods()) {
            if (m.getName().equals(name) && m.getParameterCount() == args.length && !Modifier.isPrivate(m.getModifiers())) {
                m.setAccessible(true);
                try {
                    return ((Number) m.invoke(object, args)).longValue();
                } catch (InvocationTargetException e) {
                    throw new IllegalStateException(name + Arrays.toString(args), e.getCause());
                }
            }
        }
        throw new IllegalStateException("no " + name);
    }

    // ---- texts ----

    private String randomText() {
        StringBuilder text = new StringBuilder();
        int few = random.nextInt(4);
        text.append("hundred days ").append(1 + random.nextInt(few == 0 ? 16 : 9));
        text.append(" law ").append(random.nextInt(4)).append(" odds ").append(random.nextInt(11)).append(";");
        int fields = random.nextInt(6);
        int men = random.nextInt(6);
        int voters = random.nextInt(8);
        int poor = random.nextInt(3);
        for (int f = 0; f < fields; f++) {
            text.append("field corn ").append(random.nextInt(poor == 0 ? 301 : 60));
            text.append(" rooks ").append(random.nextInt(poor == 1 ? 41 : 12)).append(random.nextBoolean() ? ";" : " ;\n");
        }
        for (int h = random.nextInt(9); h > 0 && fields > 1; h--) {
            int a = random.nextInt(fields);
            int b = (a + 1 + random.nextInt(fields - 1)) % fields;
            text.append("hedge ").append(a).append(' ').append(b).append(';');
        }
        for (int m = 0; m < men; m++) {
            text.append("man frights ").append(random.nextInt(poor == 2 ? 41 : 15)).append(" tires ");
            text.append(random.nextInt(random.nextBoolean() ? 10 : 3)).append(';');
        }
        for (int v = 0; v < voters; v++) {
            voter(text, men, random.nextInt(men + 1));
        }
        return text.length() > 700 ? "hundred days 3law 1odds 5;" : text.toString();
    }

    private void voter(StringBuilder text, int men, int wanted) {
        text.append("voter hats ").append(1 + random.nextInt(random.nextBoolean() ? 9 : 3));
        List<Integer> row = new ArrayList<>();
        for (int m = 0; m < men; m++) {
            row.add(random.nextInt(row.size() + 1), m);
        }
        for (int m : row.subList(0, wanted)) {
            text.append(' ').append(m);
        }
        text.append(';');
    }

    private String spoil(String text) {
        String[] bits = {"hundred", "field corn 1 rooks 1;", "hedge 0 1;", "man frights 1 tires 1;", "voter hats 1;", ";", "0",
            "7", "99999999999999999999", "\t", "A", "\u00e9", " ", "\n", "days", "man", "voter", "hats 1 0 0;", "\0"};
        StringBuilder s = new StringBuilder(text);
        for (int i = random.nextInt(3); i > 0; i--) {
            int at = random.nextInt(s.length() + 1);
            switch (random.nextInt(4)) {
                case 0:
                    s.insert(at, bits[random.nextInt(bits.length)]);
                    break;
                case 1:
                    s.setLength(at);
                    break;
                case 2:
                    s.delete(at, Math.min(s.length(), at + 1 + random.nextInt(6)));
                    break;
                default:
                    int sign = s.indexOf(";", at);
                    if (sign >= 0) {
                        s.insert(sign + 1, bits[random.nextInt(bits.length)]);
                    }
                    break;
            }
        }
        return s.length() > 700 ? s.substring(0, 700) : s.toString();
    }
}
