import java.math.BigInteger;
import java.util.ArrayList;
import java.util.HashMap;
import java.util.List;
import java.util.Map;
import java.util.TreeMap;

/**
 * The document a second time, slow and word by word, with the whole Java library: what RookHusting answers is held
 * against it. It has the same methods with the same parameters.
 */
final class Model {
    record Man(int frights, int tires) { }

    record Voter(int hats, List<Integer> row) { }

    record Field(int corn, int rooks) { }

    record Speech(int field, int day) { }

    record Act(boolean put, int field, int value) { }

    record Kept(Told told, List<Act> acts) { }

    /** A HUNDRED; lists are never changed once it stands. */
    record Told(int days, int law, int odds, List<Field> fields, List<int[]> hedges, List<Man> men,
            List<Voter> voters, int lines) { }

    /** corn, rooks and fear by DAY and FIELD; eaten, flown and goal by DAY ahead of the last. */
    record Run(List<int[]> corn, List<int[]> rooks, List<int[]> fear, List<int[]> eaten, List<int[]> flown,
            List<int[]> goal) {
        int total(int day) {
            int sum = 0;
            for (int c : corn.get(day)) {
                sum += c;
            }
            return sum;
        }
    }

    private final List<Integer> tape = new ArrayList<>();
    private Told told = null;
    private List<Act> acts = new ArrayList<>();
    private int fault = 0;
    private int place = -1;
    private final Map<Integer, Kept> images = new HashMap<>();
    private final Object[] slots = new Object[4];

    // ---- tape ----

    int feed(int a, int b, int c, int d, int e) {
        if (tape.size() + 20 > 700) {
            return -1;
        }
        for (int v : new int[] {a, b, c, d, e}) {
            for (byte one : java.nio.ByteBuffer.allocate(4).putInt(v).array()) {
                tape.add(one & 255);
            }
        }
        return tape.size();
    }

    int end(int n) {
        if (n < 0 || n > tape.size()) {
            return -1;
        }
        while (tape.size() > n) {
            tape.remove(tape.size() - 1);
        }
        return n;
    }

    record Token(String text, int at) { }

    private static final class Fault extends Exception {
        private static final long serialVersionUID = 1L;
        final int kind;
        final int at;

        Fault(int kind, int at) {
            this.kind = kind;
            this.at = at;
        }
    }

    private List<Token> tokens() {
        List<Token> list = new ArrayList<>();
        StringBuilder text = new StringBuilder();
        for (int b : tape) {
            text.append((char) b);
        }
        java.util.regex.Matcher m = java.util.regex.Pattern.compile("[a-z]+|[0-9]+|[^ \n]", java.util.regex.Pattern.DOTALL)
                .matcher(text);
        while (m.find()) {
            list.add(new Token(m.group(), m.start()));
        }
        list.add(new Token("", tape.size()));
        return list;
    }

    private static void expect(Token t, String text) throws Fault {
        if (!t.text.equals(text)) {
            throw new Fault(1, t.at);
        }
    }

    private static boolean isNumber(Token t) {
        return t.text.matches("[0-9]+");
    }

    private static int number(Token t, int low, int high) throws Fault {
        if (!isNumber(t)) {
            throw new Fault(1, t.at);
        }
        BigInteger v = new BigInteger(t.text);
        if (v.compareTo(BigInteger.valueOf(low)) < 0 || v.compareTo(BigInteger.valueOf(high)) > 0) {
            throw new Fault(2, t.at);
        }
        return v.intValue();
    }

    private static Told parse(List<Token> ts) throws Fault {
        int days = 0;
        int law = 0;
        int odds = 0;
        int lines = 0;
        List<Field> fields = new ArrayList<>();
        List<int[]> hedges = new ArrayList<>();
        List<Man> men = new ArrayList<>();
        List<Voter> voters = new ArrayList<>();
        int p = 0;
        while (!ts.get(p).text.isEmpty()) {
            Token word = ts.get(p++);
            if ((lines == 0) != word.text.equals("hundred")) {
                throw new Fault(1, word.at);
            }
            switch (word.text) {
                case "hundred" -> {
                    expect(ts.get(p++), "days");
                    days = number(ts.get(p++), 1, 16);
                    expect(ts.get(p++), "law");
                    law = number(ts.get(p++), 0, 3);
                    expect(ts.get(p++), "odds");
                    odds = number(ts.get(p++), 0, 10);
                }
                case "field" -> {
                    if (fields.size() == 5) {
                        throw new Fault(3, word.at);
                    }
                    expect(ts.get(p++), "corn");
                    int corn = number(ts.get(p++), 0, 300);
                    expect(ts.get(p++), "rooks");
                    fields.add(new Field(corn, number(ts.get(p++), 0, 40)));
                }
                case "hedge" -> {
                    if (hedges.size() == 8) {
                        throw new Fault(3, word.at);
                    }
                    int a = number(ts.get(p++), 0, fields.size() - 1);
                    Token other = ts.get(p++);
                    int b = number(other, 0, fields.size() - 1);
                    if (a == b) {
                        throw new Fault(2, other.at);
                    }
                    hedges.add(new int[] {a, b});
                }
                case "man" -> {
                    if (!voters.isEmpty()) {
                        throw new Fault(1, word.at);
                    }
                    if (men.size() == 5) {
                        throw new Fault(3, word.at);
                    }
                    expect(ts.get(p++), "frights");
                    int frights = number(ts.get(p++), 0, 40);
                    expect(ts.get(p++), "tires");
                    men.add(new Man(frights, number(ts.get(p++), 0, 9)));
                }
                case "voter" -> {
                    if (voters.size() == 7) {
                        throw new Fault(3, word.at);
                    }
                    expect(ts.get(p++), "hats");
                    int hats = number(ts.get(p++), 1, 9);
                    List<Integer> row = new ArrayList<>();
                    while (isNumber(ts.get(p))) {
                        int m = number(ts.get(p), 0, men.size() - 1);
                        if (row.contains(m)) {
                            throw new Fault(2, ts.get(p).at);
                        }
                        row.add(m);
                        p++;
                    }
                    voters.add(new Voter(hats, row));
                }
                default -> throw new Fault(1, word.at);
            }
            expect(ts.get(p++), ";");
            lines++;
        }
        return lines == 0 ? null : new Told(days, law, odds, fields, hedges, men, voters, lines);
    }

    int hundred() {
        try {
            Told read = parse(tokens());
            told = read;
            tape.clear();
            acts = new ArrayList<>();
            fault = 0;
            place = -1;
            return read == null ? 0 : read.lines;
        } catch (Fault f) {
            fault = f.kind;
            place = f.at;
            return -4;
        }
    }

    int fault(int what) {
        return what == 0 ? fault : what == 1 ? place : -1;
    }

    // ---- what there is ----

    private boolean noField(int f) {
        return told == null || f < 0 || f >= told.fields.size();
    }

    private boolean noMan(int m) {
        return told == null || m < 0 || m >= told.men.size();
    }

    private boolean noVoter(int v) {
        return told == null || v < 0 || v >= told.voters.size();
    }

    private boolean noDay(int d) {
        return told == null || d < 0 || d > told.days;
    }

    private boolean noDayAhead(int d) {
        return noDay(d) || d == told.days;
    }

    private static boolean notTwo(int what) {
        return what != 0 && what != 1;
    }

    private boolean noSet(int set) {
        return told == null || set < 0 || (set >> told.men.size()) != 0;
    }

    private static boolean noLaw(int law) {
        return law < 0 || law > 3;
    }

    int field(int f, int what) {
        if (noField(f) || notTwo(what)) {
            return -2;
        }
        return what == 0 ? told.fields.get(f).corn : told.fields.get(f).rooks;
    }

    int hedges(int f) {
        if (noField(f)) {
            return -2;
        }
        int bits = 0;
        for (int[] h : told.hedges) {
            if (h[0] == f) {
                bits |= 1 << h[1];
            }
            if (h[1] == f) {
                bits |= 1 << h[0];
            }
        }
        return bits;
    }

    int man(int m, int what) {
        if (noMan(m) || notTwo(what)) {
            return -2;
        }
        return what == 0 ? told.men.get(m).frights : told.men.get(m).tires;
    }

    int hats(int v) {
        return noVoter(v) ? -2 : told.voters.get(v).hats;
    }

    int wants(int v, int i) {
        if (noVoter(v)) {
            return -2;
        }
        List<Integer> row = told.voters.get(v).row;
        return i < 0 || i >= row.size() ? -1 : row.get(i);
    }

    // ---- elections ----

    private static List<Integer> menOf(int set) {
        List<Integer> list = new ArrayList<>();
        for (int m = 0; m < 5; m++) {
            if ((set & 1 << m) != 0) {
                list.add(m);
            }
        }
        return list;
    }

    private static Map<Integer, Integer> tally(List<Voter> voters, List<Integer> set, int law) {
        Map<Integer, Integer> got = new TreeMap<>();
        for (int m : set) {
            got.put(m, 0);
        }
        for (Voter v : voters) {
            List<Integer> his = new ArrayList<>(v.row);
            his.retainAll(set);
            for (int i = 0; i < his.size(); i++) {
                int times;
                if (law == 1) {
                    int behind = his.size() - 1 - i;
                    int notIn = set.size() - his.size();
                    times = behind + notIn;
                } else if (law == 3) {
                    times = i <= 1 ? 1 : 0;
                } else {
                    times = i == 0 ? 1 : 0;
                }
                got.merge(his.get(i), v.hats * times, Integer::sum);
            }
        }
        return got;
    }

    private static int elect(List<Voter> voters, List<Integer> set, int law) {
        if (set.isEmpty()) {
            return -1;
        }
        if (law == 2) {
            if (set.size() == 1) {
                return set.get(0);
            }
            Map<Integer, Integer> got = tally(voters, set, 0);
            int out = -1;
            for (int m : set) {
                if (out == -1 || got.get(m) <= got.get(out)) {
                    out = m;
                }
            }
            List<Integer> rest = new ArrayList<>(set);
            rest.remove(Integer.valueOf(out));
            return elect(voters, rest, 2);
        }
        Map<Integer, Integer> got = tally(voters, set, law);
        int first = set.get(0);
        for (int m : set) {
            if (got.get(m) > got.get(first)) {
                first = m;
            }
        }
        return first;
    }

    private List<Integer> everyMan() {
        return menOf((1 << told.men.size()) - 1);
    }

    int votes(int set, int law, int m) {
        if (noSet(set) || noLaw(law) || noMan(m) || !menOf(set).contains(m)) {
            return -2;
        }
        return tally(told.voters, menOf(set), law).get(m);
    }

    int elects(int set, int law) {
        return noSet(set) || noLaw(law) ? -2 : elect(told.voters, menOf(set), law);
    }

    private int[] standingBy(int law) {
        int[] row = new int[told.fields.size()];
        List<Integer> left = everyMan();
        for (int f = 0; f < row.length; f++) {
            row[f] = elect(told.voters, left, law);
            left.remove(Integer.valueOf(row[f]));
        }
        return row;
    }

    int elected(int f) {
        return noField(f) ? -2 : standingBy(told.law)[f];
    }

    private static int[] moved(int[] row, int f, int m) {
        int[] next = row.clone();
        for (int i = 0; i < next.length; i++) {
            if (m != -1 && next[i] == m) {
                next[i] = -1;
            }
        }
        next[f] = m;
        return next;
    }

    private int[] standing() {
        int[] row = standingBy(told.law);
        for (Act a : acts) {
            if (a.put) {
                row = moved(row, a.field, a.value);
            }
        }
        return row;
    }

    private List<Speech> speeches() {
        List<Speech> list = new ArrayList<>();
        for (Act a : acts) {
            if (!a.put) {
                list.add(new Speech(a.field, a.value));
            }
        }
        return list;
    }

    int stands(int f) {
        return noField(f) ? -2 : standing()[f];
    }

    int where(int m) {
        if (noMan(m)) {
            return -2;
        }
        int[] row = standing();
        for (int f = 0; f < row.length; f++) {
            if (row[f] == m) {
                return f;
            }
        }
        return -1;
    }

    private static boolean more(List<Integer> row, int m, int other) {
        int i = row.indexOf(m);
        int j = row.indexOf(other);
        return i >= 0 && (j < 0 || i < j);
    }

    int over(int m, int other) {
        if (noMan(m) || noMan(other) || m == other) {
            return -2;
        }
        int sum = 0;
        for (Voter v : told.voters) {
            sum += more(v.row, m, other) ? v.hats : 0;
        }
        return sum;
    }

    int beats() {
        if (told == null) {
            return -2;
        }
        for (int m : everyMan()) {
            boolean all = true;
            for (int o : everyMan()) {
                all &= o == m || over(m, o) > over(o, m);
            }
            if (all) {
                return m;
            }
        }
        return -1;
    }

    int rings() {
        if (told == null) {
            return -2;
        }
        int rings = 0;
        for (int set = 0; set < 1 << told.men.size(); set++) {
            List<Integer> three = menOf(set);
            if (three.size() == 3) {
                boolean ring = true;
                for (int m : three) {
                    int above = 0;
                    int below = 0;
                    for (int o : three) {
                        if (o != m) {
                            above += over(m, o) > over(o, m) ? 1 : 0;
                            below += over(m, o) < over(o, m) ? 1 : 0;
                        }
                    }
                    ring &= above == 1 && below == 1;
                }
                rings += ring ? 1 : 0;
            }
        }
        return rings;
    }

    int least(int m) {
        if (noMan(m)) {
            return -2;
        }
        int fewest = -1;
        for (int away = 0; away < 1 << told.voters.size(); away++) {
            List<Voter> there = new ArrayList<>();
            int gone = 0;
            for (int v = 0; v < told.voters.size(); v++) {
                if ((away & 1 << v) != 0) {
                    gone += told.voters.get(v).hats;
                } else {
                    there.add(told.voters.get(v));
                }
            }
            if (elect(there, everyMan(), told.law) == m && (fewest < 0 || gone < fewest)) {
                fewest = gone;
            }
        }
        return fewest;
    }

    private static void rowsFrom(List<Integer> row, List<Integer> men, List<List<Integer>> all) {
        all.add(new ArrayList<>(row));
        for (int m : men) {
            if (!row.contains(m)) {
                row.add(m);
                rowsFrom(row, men, all);
                row.remove(row.size() - 1);
            }
        }
    }

    int gains(int v) {
        if (noVoter(v)) {
            return -2;
        }
        int present = elect(told.voters, everyMan(), told.law);
        if (present == -1) {
            return 0;
        }
        List<List<Integer>> all = new ArrayList<>();
        rowsFrom(new ArrayList<>(), everyMan(), all);
        for (List<Integer> row : all) {
            List<Voter> said = new ArrayList<>(told.voters);
            said.set(v, new Voter(told.voters.get(v).hats, row));
            if (more(told.voters.get(v).row, elect(said, everyMan(), told.law), present)) {
                return 1;
            }
        }
        return 0;
    }

    int plain() {
        if (told == null) {
            return -2;
        }
        int bits = 0;
        for (int v = 0; v < told.voters.size(); v++) {
            bits |= gains(v) << v;
        }
        return bits;
    }

    private long[] decided(int v, List<Integer> come) {
        if (come.size() == told.voters.size()) {
            int all = told.voters.stream().mapToInt(Voter::hats).sum();
            int sum = 0;
            for (int one : come) {
                sum += told.voters.get(one).hats;
                if (2 * sum > all) {
                    return new long[] {one == v ? 1 : 0, 1};
                }
            }
            throw new IllegalStateException("nobody decides");
        }
        long[] sum = new long[2];
        for (int one = 0; one < told.voters.size(); one++) {
            if (!come.contains(one)) {
                come.add(one);
                long[] part = decided(v, come);
                sum[0] += part[0];
                sum[1] += part[1];
                come.remove(come.size() - 1);
            }
        }
        return sum;
    }

    private static long fraction(BigInteger above, BigInteger below, int what) {
        BigInteger g = above.gcd(below);
        return (what == 0 ? above : below).divide(g).longValueExact();
    }

    int power(int v, int what) {
        if (noVoter(v) || notTwo(what)) {
            return -2;
        }
        long[] d = decided(v, new ArrayList<>());
        return (int) fraction(BigInteger.valueOf(d[0]), BigInteger.valueOf(d[1]), what);
    }

    int loved(int m) {
        return noMan(m) ? -2 : told.voters.stream().filter(v -> v.row.indexOf(m) == 0).mapToInt(Voter::hats).sum();
    }

    int shunned(int m) {
        return noMan(m) ? -2 : told.voters.stream().filter(v -> !v.row.contains(m)).mapToInt(Voter::hats).sum();
    }

    int swings() {
        if (told == null) {
            return -2;
        }
        int bits = 0;
        for (int v = 0; v < told.voters.size(); v++) {
            List<Voter> there = new ArrayList<>(told.voters);
            there.remove(v);
            if (elect(there, everyMan(), told.law) != elect(told.voters, everyMan(), told.law)) {
                bits |= 1 << v;
            }
        }
        return bits;
    }

    // ---- days ----

    private int fearOf(int[] standing, List<Speech> speeches, int f, int day) {
        if (standing[f] == -1) {
            return 0;
        }
        int last = 0;
        for (Speech s : speeches) {
            if (s.field == f && s.day <= day) {
                last = Math.max(last, s.day);
            }
        }
        Man m = told.men.get(standing[f]);
        return Math.max(0, m.frights - m.tires * (day - last));
    }

    private List<int[]> pairsWith(int[] more) {
        List<int[]> list = new ArrayList<>(told.hedges);
        if (more != null) {
            list.add(more);
        }
        return list;
    }

    private Run run(int[] standing, List<Speech> speeches, int[] moreHedge, int wind) {
        int n = told.fields.size();
        Run r = new Run(new ArrayList<>(), new ArrayList<>(), new ArrayList<>(), new ArrayList<>(), new ArrayList<>(),
                new ArrayList<>());
        int[] corn = told.fields.stream().mapToInt(Field::corn).toArray();
        int[] rooks = told.fields.stream().mapToInt(Field::rooks).toArray();
        for (int day = 0; day <= told.days; day++) {
            int[] fear = new int[n];
            for (int f = 0; f < n; f++) {
                fear[f] = fearOf(standing, speeches, f, day);
            }
            r.corn.add(corn.clone());
            r.rooks.add(rooks.clone());
            r.fear.add(fear);
            if (day == told.days) {
                break;
            }
            int[] eaten = new int[n];
            int[] flown = new int[n];
            int[] goal = new int[n];
            java.util.Arrays.fill(goal, -1);
            int[] next = new int[n];
            for (int f = 0; f < n; f++) {
                if ((wind >> day & 1) == 1) {
                    next[f] += rooks[f];
                    continue;
                }
                int eaters = rooks[f] > fear[f] ? rooks[f] - fear[f] : 0;
                int others = rooks[f] - eaters;
                eaten[f] = eaters > corn[f] ? corn[f] : eaters;
                int to = -1;
                for (int g = 0; g < n; g++) {
                    boolean joined = false;
                    for (int[] h : pairsWith(moreHedge)) {
                        joined |= h[0] == f && h[1] == g || h[1] == f && h[0] == g;
                    }
                    if (joined && (to == -1 || fear[g] < fear[to])) {
                        to = g;
                    }
                }
                next[f] += eaters;
                next[to == -1 ? f : to] += others;
                if (to != -1 && others > 0) {
                    goal[f] = to;
                    flown[f] = others;
                }
            }
            for (int f = 0; f < n; f++) {
                corn[f] -= eaten[f];
            }
            rooks = next;
            r.eaten.add(eaten);
            r.flown.add(flown);
            r.goal.add(goal);
        }
        return r;
    }

    private Run nowRun() {
        return run(standing(), speeches(), null, 0);
    }

    int fear(int f, int d) {
        return noField(f) || noDay(d) ? -2 : nowRun().fear.get(d)[f];
    }

    int rooks(int f, int d) {
        return noField(f) || noDay(d) ? -2 : nowRun().rooks.get(d)[f];
    }

    int corn(int f, int d) {
        return noField(f) || noDay(d) ? -2 : nowRun().corn.get(d)[f];
    }

    int eaten(int f, int d) {
        return noField(f) || noDayAhead(d) ? -2 : nowRun().eaten.get(d)[f];
    }

    int flies(int f, int d) {
        return noField(f) || noDayAhead(d) ? -2 : nowRun().goal.get(d)[f];
    }

    int all(int d) {
        return noDay(d) ? -2 : nowRun().total(d);
    }

    private static int firstMost(int[] row) {
        int first = -1;
        for (int f = 0; f < row.length; f++) {
            if (first == -1 || row[f] > row[first]) {
                first = f;
            }
        }
        return first;
    }

    int black(int d) {
        return noDay(d) ? -2 : firstMost(nowRun().rooks.get(d));
    }

    int richest(int d) {
        return noDay(d) ? -2 : firstMost(nowRun().corn.get(d));
    }

    private static int firstZeroDay(List<int[]> days, int f) {
        for (int d = 0; d < days.size(); d++) {
            if (days.get(d)[f] == 0) {
                return d;
            }
        }
        return -1;
    }

    int shoulder(int f) {
        return noField(f) ? -2 : firstZeroDay(nowRun().fear, f);
    }

    int bare(int f) {
        return noField(f) ? -2 : firstZeroDay(nowRun().corn, f);
    }

    int kept() {
        if (told == null) {
            return -2;
        }
        int bits = 0;
        for (int f = 0; f < told.fields.size(); f++) {
            if (eats(f) == 0) {
                bits |= 1 << f;
            }
        }
        return bits;
    }

    int worst() {
        if (told == null) {
            return -2;
        }
        int[] sums = nowRun().eaten.stream().mapToInt(e -> java.util.Arrays.stream(e).sum()).toArray();
        return firstMost(sums);
    }

    int tired(int m) {
        if (noMan(m)) {
            return -2;
        }
        Man who = told.men.get(m);
        for (int d = 0; d <= 40; d++) {
            if (who.frights - who.tires * d <= 0) {
                return d;
            }
        }
        return -1;
    }

    int guards() {
        if (told == null) {
            return -2;
        }
        int bits = 0;
        for (int m : standing()) {
            bits |= m == -1 ? 0 : 1 << m;
        }
        return bits;
    }

    int eats(int f) {
        return noField(f) ? -2 : nowRun().eaten.stream().mapToInt(e -> e[f]).sum();
    }

    int quiet(int d) {
        if (noDayAhead(d)) {
            return -2;
        }
        int bits = 0;
        for (int f = 0; f < told.fields.size(); f++) {
            bits |= nowRun().eaten.get(d)[f] == 0 ? 1 << f : 0;
        }
        return bits;
    }

    int peace() {
        if (told == null) {
            return -2;
        }
        int longest = 0;
        for (int from = 0; from < told.days; from++) {
            for (int to = from; to < told.days; to++) {
                boolean calm = true;
                for (int d = from; d <= to; d++) {
                    calm &= quiet(d) == (1 << told.fields.size()) - 1;
                }
                longest = calm ? Math.max(longest, to - from + 1) : longest;
            }
        }
        return longest;
    }

    int bold(int f) {
        return noField(f) ? -2 : (int) nowRun().eaten.stream().filter(e -> e[f] > 0).count();
    }

    int most(int f) {
        return noField(f) ? -2 : nowRun().rooks.stream().mapToInt(e -> e[f]).max().getAsInt();
    }

    int flown(int d) {
        return noDayAhead(d) ? -2 : java.util.Arrays.stream(nowRun().flown.get(d)).sum();
    }

    // ---- best ----

    private void rowsOfMen(int[] row, int f, List<int[]> all) {
        if (f == row.length) {
            all.add(row.clone());
            return;
        }
        for (int m = -1; m < told.men.size(); m++) {
            boolean twice = false;
            for (int g = 0; g < f; g++) {
                twice |= m != -1 && row[g] == m;
            }
            if (!twice) {
                row[f] = m;
                rowsOfMen(row, f + 1, all);
            }
        }
    }

    private List<int[]> bestRows(int[] bestOut) {
        List<int[]> all = new ArrayList<>();
        rowsOfMen(new int[told.fields.size()], 0, all);
        List<int[]> best = new ArrayList<>();
        bestOut[0] = -1;
        for (int[] row : all) {
            int left = run(row, speeches(), null, 0).total(told.days);
            if (left > bestOut[0]) {
                best.clear();
                bestOut[0] = left;
            }
            if (left == bestOut[0]) {
                best.add(row);
            }
        }
        return best;
    }

    int best() {
        if (told == null) {
            return -2;
        }
        int[] out = new int[1];
        bestRows(out);
        return out[0];
    }

    int put(int f) {
        return noField(f) ? -2 : bestRows(new int[1]).get(0)[f];
    }

    int ways() {
        return told == null ? -2 : bestRows(new int[1]).size();
    }

    int fewest() {
        return told == null ? -2 : bestRows(new int[1]).stream()
                .mapToInt(r -> (int) java.util.Arrays.stream(r).filter(m -> m != -1).count()).min().getAsInt();
    }

    int by(int law) {
        return told == null || noLaw(law) ? -2 : run(standingBy(law), speeches(), null, 0).total(told.days);
    }

    int law() {
        return told == null ? -2 : firstMost(new int[] {by(0), by(1), by(2), by(3)});
    }

    int speech() {
        if (told == null) {
            return -2;
        }
        int most = all(told.days);
        int answer = -1;
        for (int f = 0; f < told.fields.size(); f++) {
            for (int d = 0; d < told.days; d++) {
                List<Speech> more = speeches();
                more.add(new Speech(f, d));
                int left = run(standing(), more, null, 0).total(told.days);
                if (left > most) {
                    most = left;
                    answer = 100 * f + d;
                }
            }
        }
        return answer;
    }

    int gap() {
        if (told == null) {
            return -2;
        }
        int most = all(told.days);
        int answer = -1;
        for (int f = 0; f < told.fields.size(); f++) {
            for (int g = f + 1; g < told.fields.size(); g++) {
                int left = run(standing(), speeches(), new int[] {f, g}, 0).total(told.days);
                if (left > most) {
                    most = left;
                    answer = 10 * f + g;
                }
            }
        }
        return answer;
    }

    // ---- seen ----

    private long numberAt(int slot, int i) {
        return java.lang.reflect.Array.getLong(slots[slot], i);
    }

    private int seenFault(int slot, int f) {
        if (slot < 0 || slot > 3 || noField(f)) {
            return -2;
        }
        if (slots[slot] == null) {
            return -6;
        }
        int n = java.lang.reflect.Array.getLength(slots[slot]);
        if (n % 3 != 0) {
            return -2;
        }
        for (int i = 0; i < n; i++) {
            long v = numberAt(slot, i);
            long most = i % 3 == 0 ? told.fields.size() - 1 : i % 3 == 1 ? told.days : 250;
            if (v < 0 || v > most) {
                return -2;
            }
        }
        return 0;
    }

    private Map<Integer, Run> fitting(int slot, int f) {
        Map<Integer, Run> fit = new TreeMap<>();
        for (int m = -1; m < told.men.size(); m++) {
            Run r = run(moved(standing(), f, m), speeches(), null, 0);
            boolean right = true;
            for (int i = 0; i < java.lang.reflect.Array.getLength(slots[slot]); i += 3) {
                right &= r.rooks.get((int) numberAt(slot, i + 1))[(int) numberAt(slot, i)] == numberAt(slot, i + 2);
            }
            if (right) {
                fit.put(m == -1 ? 5 : m, r);
            }
        }
        return fit;
    }

    int may(int slot, int f) {
        int wrong = seenFault(slot, f);
        if (wrong != 0) {
            return wrong;
        }
        int bits = 0;
        for (int m : fitting(slot, f).keySet()) {
            bits |= 1 << m;
        }
        return bits;
    }

    private int[] question(int slot, int f) {
        Map<Integer, Run> fit = fitting(slot, f);
        int[] answer = {-1, fit.size()};
        for (int g = 0; g < told.fields.size(); g++) {
            for (int d = 0; d <= told.days; d++) {
                Map<Integer, Integer> groups = new HashMap<>();
                for (Run r : fit.values()) {
                    groups.merge(r.rooks.get(d)[g], 1, Integer::sum);
                }
                int worst = groups.values().stream().mapToInt(x -> x).max().orElse(0);
                if (worst < answer[1]) {
                    answer = new int[] {100 * g + d, worst};
                }
            }
        }
        return answer;
    }

    int ask(int slot, int f) {
        int wrong = seenFault(slot, f);
        return wrong != 0 ? wrong : question(slot, f)[0];
    }

    int leaves(int slot, int f) {
        int wrong = seenFault(slot, f);
        return wrong != 0 ? wrong : question(slot, f)[1];
    }

    // ---- game ----

    int gets(int f, int g, int x, int y) {
        if (noField(f) || noField(g) || f == g || notTwo(x) || notTwo(y)) {
            return -1000;
        }
        List<Speech> more = speeches();
        for (int d = 0; d <= told.days; d++) {
            if (x == 1) {
                more.add(new Speech(f, d));
            }
            if (y == 1) {
                more.add(new Speech(g, d));
            }
        }
        return run(standing(), more, null, 0).corn.get(told.days)[f] - (x == 1 ? 8 : 0);
    }

    int rests(int f, int g) {
        if (noField(f) || noField(g) || f == g) {
            return -2;
        }
        int bits = 0;
        int[][] pairs = {{0, 0}, {1, 0}, {0, 1}, {1, 1}};
        for (int i = 0; i < 4; i++) {
            int x = pairs[i][0];
            int y = pairs[i][1];
            if (gets(f, g, 1 - x, y) <= gets(f, g, x, y) && gets(g, f, 1 - y, x) <= gets(g, f, y, x)) {
                bits |= 1 << i;
            }
        }
        return bits;
    }

    // ---- wind ----

    private BigInteger sumOverWinds(int days, int wind, int day, BigInteger weight,
            java.util.function.Function<Run, Integer> value) {
        if (weight.signum() == 0) {
            return BigInteger.ZERO;
        }
        if (day == days) {
            return weight.multiply(BigInteger.valueOf(value.apply(run(standing(), speeches(), null, wind))));
        }
        BigInteger with = weight.multiply(BigInteger.valueOf(told.odds));
        BigInteger without = weight.multiply(BigInteger.valueOf(10 - told.odds));
        return sumOverWinds(days, wind | 1 << day, day + 1, with, value)
                .add(sumOverWinds(days, wind, day + 1, without, value));
    }

    long chance(int f, int d, int n, int what) {
        if (noField(f) || noDayAhead(d) || d > 7 || n < 0 || n > 300 || notTwo(what)) {
            return -2;
        }
        BigInteger sum = sumOverWinds(d + 1, 0, 0, BigInteger.ONE, r -> r.corn.get(d + 1)[f] >= n ? 1 : 0);
        return fraction(sum, BigInteger.TEN.pow(d + 1), what);
    }

    long mean(int d, int what) {
        if (noDayAhead(d) || d > 7 || notTwo(what)) {
            return -2;
        }
        BigInteger sum = sumOverWinds(d + 1, 0, 0, BigInteger.ONE, r -> r.total(d + 1));
        return fraction(sum, BigInteger.TEN.pow(d + 1), what);
    }

    private int windOf(long seed) {
        BigInteger x = BigInteger.valueOf(seed);
        int bits = 0;
        for (int d = 0; d < told.days; d++) {
            x = x.multiply(BigInteger.valueOf(1103515245)).add(BigInteger.valueOf(12345))
                    .mod(BigInteger.valueOf(2147483648L));
            int draw = x.divide(BigInteger.valueOf(65536)).mod(BigInteger.TEN).intValue();
            bits |= draw < told.odds ? 1 << d : 0;
        }
        return bits;
    }

    int drawn(int seed, int what) {
        if (told == null || seed < 0 || seed > 2000000000 || notTwo(what)) {
            return -2;
        }
        int wind = windOf(seed);
        return what == 0 ? wind : run(standing(), speeches(), null, wind).total(told.days);
    }

    int luck(int seed, int n, int f) {
        if (noField(f) || seed < 0 || seed > 2000000000 || n < 1 || n > 20) {
            return -2;
        }
        int lucky = 0;
        for (long s = seed; s < (long) seed + n; s++) {
            lucky += run(standing(), speeches(), null, windOf(s)).corn.get(told.days)[f] > 0 ? 1 : 0;
        }
        return lucky;
    }

    // ---- acts ----

    int puts(int f, int m) {
        if (noField(f) || m != -1 && noMan(m)) {
            return -2;
        }
        if (acts.size() == 30) {
            return -5;
        }
        int stood = standing()[f];
        acts.add(new Act(true, f, m));
        return stood;
    }

    int speaks(int f, int d) {
        if (noField(f) || noDayAhead(d)) {
            return -2;
        }
        if (acts.size() == 30) {
            return -5;
        }
        acts.add(new Act(false, f, d));
        return fear(f, d);
    }

    int undo() {
        if (told == null) {
            return -2;
        }
        if (acts.isEmpty()) {
            return -5;
        }
        acts.remove(acts.size() - 1);
        return acts.size();
    }

    int anew() {
        if (told == null) {
            return -2;
        }
        int n = acts.size();
        acts.clear();
        return n;
    }

    int rate(int m, int n) {
        if (noMan(m) || n < 0 || n > 40) {
            return -2;
        }
        if (!acts.isEmpty()) {
            return -5;
        }
        List<Man> men = new ArrayList<>(told.men);
        Man was = men.set(m, new Man(n, told.men.get(m).tires));
        told = new Told(told.days, told.law, told.odds, told.fields, told.hedges, men, told.voters, told.lines);
        return was.frights;
    }

    int count(int what) {
        if (what == 7) {
            return acts.size();
        }
        if (what == 9) {
            return tape.size();
        }
        if (what == 10) {
            return (int) java.util.Arrays.stream(slots).filter(s -> s != null).count();
        }
        if (what < 0 || what > 10) {
            return -1;
        }
        if (told == null) {
            return 0;
        }
        return new int[] {told.days, told.law, told.odds, told.fields.size(), told.hedges.size(), told.men.size(),
            told.voters.size(), 0, told.lines}[what];
    }

    int image(int k) {
        if (k < 0 || k > 2) {
            return -2;
        }
        images.put(k, new Kept(told, List.copyOf(acts)));
        return 0;
    }

    int back(int k) {
        if (k < 0 || k > 2) {
            return -2;
        }
        if (!images.containsKey(k)) {
            return -6;
        }
        told = images.get(k).told;
        acts = new ArrayList<>(images.get(k).acts);
        return 0;
    }

    // ---- slots ----

    int row(int slot, int width, int n) {
        if (slot < 0 || slot > 3 || width < 0 || width > 3 || n > 60) {
            return -2;
        }
        if (n < 0) {
            return -3;
        }
        Class<?>[] kinds = {byte.class, short.class, int.class, long.class};
        slots[slot] = java.lang.reflect.Array.newInstance(kinds[width], n);
        return 0;
    }

    int write(int slot, int i, long v) {
        if (slot < 0 || slot > 3) {
            return -2;
        }
        if (slots[slot] == null) {
            return -6;
        }
        if (i < 0 || i >= java.lang.reflect.Array.getLength(slots[slot])) {
            return -7;
        }
        if (slots[slot] instanceof byte[] bytes) {
            bytes[i] = (byte) v;
        } else if (slots[slot] instanceof short[] shorts) {
            shorts[i] = (short) v;
        } else if (slots[slot] instanceof int[] ints) {
            ints[i] = (int) v;
        } else {
            ((long[]) slots[slot])[i] = v;
        }
        return 0;
    }

    int paste(int slot, int i, int to, int k, int n) {
        if (slot < 0 || slot > 3 || to < 0 || to > 3) {
            return -2;
        }
        if (slots[slot] == null || slots[to] == null) {
            return -6;
        }
        if (slots[slot].getClass() != slots[to].getClass()) {
            return -8;
        }
        try {
            System.arraycopy(slots[slot], i, slots[to], k, n);
            return 0;
        } catch (IndexOutOfBoundsException beyond) {
            return -7;
        }
    }
}
