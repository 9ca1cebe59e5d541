import java.lang.reflect.Constructor;
import java.lang.reflect.Field;
import java.lang.reflect.Method;
import java.lang.reflect.Modifier;
import java.nio.file.Files;
import java.nio.file.Path;
import java.util.Arrays;
import java.util.List;
import java.util.Set;
import java.util.TreeSet;
import java.util.regex.Matcher;
import java.util.regex.Pattern;

/** Rules of LANGUAGE.md that can be seen in the source's text or in the class: those that a slip breaks easily. */
public final class LanguageTest {
    private static final String FACE = "feed IIIII|end I|hundred |fault I|field II|hedges I|man II|hats I|wants II|votes III|"
            + "elects II|elected I|stands I|where I|over II|beats |rings |least I|gains I|plain |power II|fear II|rooks II|"
            + "corn II|eaten II|flies II|all I|black I|shoulder I|bare I|kept |worst |loved I|shunned I|swings |tired I|"
            + "guards |eats I|quiet I|peace |bold I|most I|flown I|richest I|best |put I|ways |fewest |by I|law |speech |gap |"
            + "may II|ask II|leaves II|rests II|gets IIII|chance IIII J|mean II J|puts II|speaks II|undo |anew |drawn II|"
            + "luck III|rate II|count I|image I|back I|row III|write IIJ|paste IIIII";
    private static final List<String> BANNED = List.of("throw", "throws", "try", "catch", "finally", "synchronized", "assert",
            "import", "package", "protected", "volatile", "native", "transient", "Random", "Thread", "Object", "hashCode",
            "toString", "getClass", "currentTimeMillis", "nanoTime", "Exception", "var", "goto");

    private LanguageTest() { }

    public static void main(String[] args) throws Exception {
        face();
        nested();
        text(Files.readString(Path.of("src/main/java/RookHusting.java")));
        Check.finish();
    }

    private static void face() {
        Class<?> c = RookHusting.class;
        Check.that("public final", Modifier.isPublic(c.getModifiers()) && Modifier.isFinal(c.getModifiers()));
        Set<String> due = new TreeSet<>(Arrays.asList(FACE.split("\\|")));
        Set<String> got = new TreeSet<>();
        for (Method m : c.getDeclaredMethods()) {
            if (Modifier.isPrivate(m.getModifiers())) {
                continue;
            }
            Check.that(m + " is public", Modifier.isPublic(m.getModifiers()) && !Modifier.isStatic(m.getModifiers()));
            StringBuilder name = new StringBuilder(m.getName()).append(' ');
            for (Class<?> p : m.getParameterTypes()) {
                name.append(p == int.class ? "I" : p == long.class ? "J" : "?");
            }
            got.add(name + (m.getReturnType() == long.class ? " J" : m.getReturnType() == int.class ? "" : " ?"));
        }
        Check.that("the document's methods: " + got, got.equals(due));
        Constructor<?>[] makers = c.getDeclaredConstructors();
        Check.that("one constructor", makers.length == 1 && Modifier.isPublic(makers[0].getModifiers())
                && makers[0].getParameterCount() == 0);
        for (Field f : c.getDeclaredFields()) {
            int m = f.getModifiers();
            Check.that(f + " is private or NONE", Modifier.isPrivate(m) || f.getName().equals("NONE"));
            Check.that(f + " is final if static", !Modifier.isStatic(m) || Modifier.isFinal(m));
        }
    }

    private static void nested() {
        Set<String> face = new TreeSet<>();
        for (String s : FACE.split("\\|")) {
            face.add(s.substring(0, s.indexOf(' ')));
        }
        Class<?>[] inside = RookHusting.class.getDeclaredClasses();
        Check.that("at most twelve classes", inside.length < 12);
        for (Class<?> c : inside) {
            Check.that(c + " is static", Modifier.isStatic(c.getModifiers()) && !Modifier.isPublic(c.getModifiers()));
            long own = Arrays.stream(c.getDeclaredFields()).filter(f -> !Modifier.isStatic(f.getModifiers())).count();
            Check.that(c + " has at most twenty fields", own <= 20);
            for (Method m : c.getDeclaredMethods()) {
                Check.that(m + " has a name of its own", !face.contains(m.getName()));
            }
        }
        for (Method m : RookHusting.class.getDeclaredMethods()) {
            Check.that(m + " has a name of its own", !Modifier.isPrivate(m.getModifiers()) || !face.contains(m.getName()));
        }
    }

    private static void text(String source) {
        Check.that("signs 1 to 127", source.chars().allMatch(ch -> ch == '\n' || ch >= 32 && ch < 127));
        String code = source.replaceAll("(?s)/\\*.*?\\*/", "").replaceAll("//[^\n]*", "").replaceAll("\"[^\"\n]*\"", "\"\"");
        for (String word : BANNED) {
            Check.that("no " + word, !Pattern.compile("\\b" + word + "\\b").matcher(code).find());
        }
        Check.that("no lambda, no method reference", !code.contains("->") && !code.contains("::"));
        Matcher dotted = Pattern.compile("\\b(Integer|Long|Math|System|Arrays)\\.(\\w+)").matcher(code);
        while (dotted.find()) {
            Check.that(dotted.group() + " is allowed", Set.of("Integer.bitCount", "Math.max", "Math.min", "System.arraycopy")
                    .contains(dotted.group()));
        }
        Matcher heads = Pattern.compile("(?m)^( {4}| {8})(?:public |private )?(?:static )?[\\w\\[\\]]+ (\\w+)\\(([^)]*)\\) \\{\n")
                .matcher(source);
        int methods = 0;
        while (heads.find()) {
            methods++;
            int end = source.indexOf("\n" + heads.group(1) + "}", heads.end() - 1);
            long lines = source.substring(heads.end(), Math.max(heads.end(), end)).lines().count();
            Check.that(heads.group(2) + " is short: " + lines, end > 0 && lines <= 60);
            Check.that(heads.group(2) + " takes at most seven", heads.group(3).split(",").length <= 7);
        }
        Check.that("methods were found: " + methods, methods > 150);
    }
}
