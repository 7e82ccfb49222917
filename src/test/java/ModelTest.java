import java.util.Arrays;
import java.util.Random;
import java.util.function.Consumer;
import java.util.function.IntUnaryOperator;
import java.util.stream.IntStream;

/** Long runs of calls by chance, but always the same ones: each answer is compared with the model's. */
public final class ModelTest {
    private static final int RUNS = 200;
    private static final int CALLS = 512;

    private final Check check;
    private final Random chance;
    private final HurtSpeech x = new HurtSpeech();
    private Model m = new Model();
    private Model kept;
    private String tape = "";
    private final long[][] sheets = new long[4][];
    private final int[] bits = new int[4];
    private final int[] findings = new int[7];

    private ModelTest(Check check, long seed) {
        this.check = check;
        this.chance = new Random(seed);
    }

    public static void main(String[] args) {
        Check check = new Check();
        for (int run = 0; run < RUNS; run++) {
            check.topic("run " + run);
            ModelTest test = new ModelTest(check, run);
            for (int call = 0; call < CALLS; call++) {
                test.step();
            }
        }
        check.end();
    }

    private int below(int n) {
        return chance.nextInt(n);
    }

    /** From least to most, and now and then just outside, or far. */
    private int about(int least, int most) {
        int what = below(40);
        if (what == 0) {
            return least - 1;
        }
        if (what == 1) {
            return most + 1;
        }
        if (what == 2 && below(5) == 0) {
            return Check.FAR[below(Check.FAR.length)];
        }
        return most < least ? least : least + below(most - least + 1);
    }

    private int someone() {
        return about(0, m.people.size() - 1);
    }

    private int talk() {
        return about(0, m.talks.size() - 1);
    }

    private boolean isOne(int d) {
        return d >= 0 && d < m.people.size();
    }

    private boolean isTalk(int s) {
        return s >= 0 && s < m.talks.size();
    }

    private static boolean in(int v, int least, int most) {
        return v >= least && v <= most;
    }

    private int found(int finding) {
        findings[-1000000001 - finding]++;
        return finding;
    }

    private void due(String call, long got, long want) {
        check.due(call, got, want);
    }

    private void step() {
        switch (below(10)) {
            case 0:
                stepOfDelegates();
                break;
            case 1:
            case 2:
                stepOfSpeeches();
                break;
            case 3:
            case 4:
                stepOfSessions();
                break;
            case 5:
            case 6:
                stepOfTheBest();
                break;
            case 7:
                stepOfTheText();
                break;
            case 8:
                stepOfSheets();
                break;
            default:
                stepOfImages();
                break;
        }
    }

    private void stepOfDelegates() {
        int d = someone();
        int kind = about(0, 5);
        int what = about(0, 5);
        switch (below(6)) {
            case 0:
                int number = !in(kind, 0, 5) ? found(Check.BEYOND)
                        : m.people.size() == 8 ? found(Check.FULL) : m.people.size();
                due("delegate " + kind, x.delegate(kind), number);
                if (number >= 0) {
                    m.people.add(new Model.Person(kind));
                }
                break;
            case 1:
                due("of " + d + " " + what, x.of(d, what),
                        !isOne(d) || !in(what, 0, 5) ? found(Check.BEYOND) : of(m.people.get(d), what, d));
                break;
            case 2:
            case 3:
                int[] most = {-1, 20, 15, below(2) == 0 ? 99999 : 500, 999, -1};
                int[] last = {-1, 20, 15, 99999, 999, -1};
                int v = in(what, 0, 5) ? about(0, most[what]) : 0;
                boolean may = isOne(d) && in(what, 1, 4) && in(v, 0, last[what]);
                due("set " + d + " " + what + " " + v, x.set(d, what, v),
                        may ? of(m.people.get(d), what, d) : found(Check.BEYOND));
                if (may) {
                    put(m.people.get(d), what, v);
                }
                break;
            case 4:
                boolean turns = isOne(d) && in(kind, 0, 5);
                due("turn " + d + " " + kind, x.turn(d, kind), turns ? m.people.get(d).kind : found(Check.BEYOND));
                if (turns) {
                    m.people.get(d).kind = kind;
                }
                break;
            default:
                int as = !isOne(d) || !in(kind, 0, 5) ? found(Check.BEYOND)
                        : Model.KINDS[kind].getClass().isInstance(Model.KINDS[m.people.get(d).kind])
                        ? m.people.get(d).hurt : found(Check.KIND);
                due("as " + d + " " + kind, x.as(d, kind), as);
                break;
        }
    }

    private int of(Model.Person p, int what, int d) {
        int[] all = {p.kind, p.pride, p.tongues, p.hurt, p.wept, m.weeps(d) ? 1 : 0};
        return all[what];
    }

    private static void put(Model.Person p, int what, int v) {
        p.pride = what == 1 ? v : p.pride;
        p.tongues = what == 2 ? v : p.tongues;
        p.hurt = what == 3 ? v : p.hurt;
        p.wept = what == 4 ? v : p.wept;
    }

    private void stepOfSpeeches() {
        int d = someone();
        int s = talk();
        int what = about(0, 5);
        int force = about(0, 99);
        int tongue = about(0, 3);
        int at = below(6) == 0 ? -1 : someone();
        boolean both = isOne(d) && isTalk(s);
        switch (below(6)) {
            case 0:
                boolean right = isOne(d) && in(tongue, 0, 3) && (at == -1 || isOne(at)) && in(force, 0, 99);
                int number = !right ? found(Check.BEYOND) : m.talks.size() == 8 ? found(Check.FULL) : m.talks.size();
                due("speech", x.speech(d, tongue, at, force), number);
                if (number >= 0) {
                    m.talks.add(new Model.Talk(d, tongue, at, force));
                }
                break;
            case 1:
                due("speechOf " + s + " " + what, x.speechOf(s, what),
                        isTalk(s) && in(what, 0, 5) ? ofTalk(s, what) : found(Check.BEYOND));
                break;
            case 2:
                int v = what == 0 ? d : what == 1 ? tongue : what == 2 ? at : force;
                boolean may = isTalk(s) && (what == 0 && isOne(v) || what == 1 && in(v, 0, 3)
                        || what == 2 && (v == -1 || isOne(v)) || what == 3 && in(v, 0, 99));
                due("tell " + s + " " + what + " " + v, x.tell(s, what, v), may ? ofTalk(s, what) : found(Check.BEYOND));
                if (may) {
                    tellTalk(m.talks.get(s), what, v);
                }
                break;
            case 3:
                due("loses " + d + " " + s, x.loses(d, s),
                        both ? m.loses(d, s, m.talks.get(s).force) : found(Check.BEYOND));
                break;
            case 4:
                due("renders " + d + " " + s, x.renders(d, s), both ? m.renders(d, s) : found(Check.BEYOND));
                break;
            default:
                int set = 0;
                for (int one = 0; isTalk(s) && one < m.people.size(); one++) {
                    set += m.loses(one, s, m.comesOver(s)) > 0 ? 1 << one : 0;
                }
                due("hurts " + s, x.hurts(s), isTalk(s) ? set : found(Check.BEYOND));
                break;
        }
    }

    private int ofTalk(int s, int what) {
        Model.Talk t = m.talks.get(s);
        int[] all = {t.by, t.tongue, t.at, t.force, m.interpreter(s), m.comesOver(s)};
        return all[what];
    }

    private static void tellTalk(Model.Talk t, int what, int v) {
        t.by = what == 0 ? v : t.by;
        t.tongue = what == 1 ? v : t.tongue;
        t.at = what == 2 ? v : t.at;
        t.force = what == 3 ? v : t.force;
    }

    private void stepOfSessions() {
        int d = someone();
        int s = talk();
        int n = about(0, 200);
        int what = about(0, 1);
        switch (below(7)) {
            case 0:
            case 1:
                int go = about(1, below(2) == 0 ? 8 : 100);
                if (in(go, 1, 100)) {
                    m = m.on(go);
                }
                due("sessions " + go, x.sessions(go), in(go, 1, 100) ? m.hurt() : found(Check.BEYOND));
                break;
            case 2:
                int which = about(0, 4);
                due("now " + which, x.now(which), in(which, 0, 4) ? now(which) : found(Check.BEYOND));
                break;
            case 3:
                boolean on = isOne(d) && in(n, 0, 200) && in(what, 0, 1);
                due("on " + d + " " + n + " " + what, x.on(d, n, what), !on ? found(Check.BEYOND)
                        : what == 0 ? m.on(n).people.get(d).hurt : m.on(n).people.get(d).wept);
                break;
            case 4:
                due("left " + s + " " + n, x.left(s, n),
                        isTalk(s) && in(n, 0, 200) ? m.on(n).talks.get(s).force : found(Check.BEYOND));
                break;
            case 5:
                due("weeps " + d, x.weeps(d), isOne(d) ? nextWeeping(d) : found(Check.BEYOND));
                break;
            default:
                int v = isOne(d) ? about(0, Math.min(99999, m.people.get(d).hurt + 1000)) : 0;
                due("when " + d + " " + v, x.when(d, v), isOne(d) && in(v, 0, 99999) ? when(d, v) : found(Check.BEYOND));
                break;
        }
    }

    private int now(int which) {
        int silent = 0;
        for (int s = 0; s < m.talks.size(); s++) {
            silent += m.interpreter(s) < 0 ? 1 << s : 0;
        }
        int next = m.talks.isEmpty() ? -1 : m.session % m.talks.size();
        int[] all = {m.session, next, m.hurt(), m.force(), silent};
        return all[which];
    }

    private int nextWeeping(int d) {
        Model then = m.again();
        for (int n = 1; n <= 200; n++) {
            then.go();
            if (then.weeper == d) {
                return n;
            }
        }
        return found(Check.NONE);
    }

    private int when(int d, int v) {
        Model then = m.again();
        for (int n = 0; n <= 200; n++) {
            if (then.people.get(d).hurt >= v) {
                return n;
            }
            then.go();
        }
        return found(Check.NONE);
    }

    /** The first of 0, 1, .. for which the answer is least. */
    private static int leastOf(int bound, IntUnaryOperator answer) {
        int[] answers = IntStream.range(0, bound).map(answer).toArray();
        int least = Arrays.stream(answers).min().getAsInt();
        return IntStream.range(0, bound).filter(i -> answers[i] == least).findFirst().getAsInt();
    }

    private Model with(Consumer<Model> change, int n) {
        Model other = m.again();
        change.accept(other);
        return other.on(n);
    }

    private void stepOfTheBest() {
        int d = someone();
        int s = talk();
        int n = about(1, 60);
        boolean planned = in(n, 1, 60);
        int beyond = Check.BEYOND;
        switch (below(7)) {
            case 0:
                due("tongue", x.tongue(s, n), isTalk(s) && planned
                        ? leastOf(4, t -> with(w -> w.talks.get(s).tongue = t, n).hurt()) : found(beyond));
                break;
            case 1:
                due("aim", x.aim(s, d, n), isTalk(s) && isOne(d) && planned ? leastOf(m.people.size() + 1,
                        a -> -with(w -> w.talks.get(s).at = a - 1, n).people.get(d).hurt) : found(beyond));
                break;
            case 2:
                due("kind", x.kind(d, n), isOne(d) && planned
                        ? leastOf(6, k -> with(w -> w.people.get(d).kind = k, n).people.get(d).hurt) : found(beyond));
                break;
            case 3:
                int v = about(0, Math.min(99999, m.hurt() + 2000));
                due("pride", x.pride(d, n, v), isOne(d) && planned && in(v, 0, 99999) ? pride(d, n, v) : found(beyond));
                break;
            case 4:
                due("learn", x.learn(d, n), isOne(d) && planned
                        ? leastOf(16, t -> with(w -> w.people.get(d).tongues = t, n).people.get(d).hurt)
                        : found(beyond));
                break;
            case 5:
                due("withdraw", x.withdraw(n), !planned ? found(beyond) : m.talks.isEmpty() ? found(Check.NONE)
                        : leastOf(m.talks.size(), t -> with(w -> w.talks.get(t).force = 0, n).hurt()));
                break;
            default:
                int far = about(0, 200);
                due("saddest", x.saddest(far), !in(far, 0, 200) ? found(beyond)
                        : m.people.isEmpty() ? found(Check.NONE) : saddest(m.on(far)));
                break;
        }
    }

    private static int saddest(Model then) {
        return leastOf(then.people.size(), one -> -then.people.get(one).hurt);
    }

    private int pride(int d, int n, int v) {
        for (int p = 0; p <= 20; p++) {
            int pride = p;
            if (with(w -> w.people.get(d).pride = pride, n).hurt() <= v) {
                return p;
            }
        }
        return found(Check.NONE);
    }

    private void stepOfTheText() {
        int what = below(8);
        if (what == 0) {
            due("wipe", x.wipe(), tape.length());
            tape = "";
        } else if (what == 1) {
            read();
        } else if (what == 2) {
            feed(chance.nextInt(), about(1, 4));
        } else {
            x.wipe();
            tape = "";
            type(text());
            read();
        }
    }

    private void read() {
        Model other = m.again();
        int want = other.take(tape);
        due("congress of '" + tape + "'", x.congress(), want);
        tape = "";
        m = want > 0 ? other : m;
    }

    private void type(String text) {
        for (int i = 0; i < text.length(); i += 4) {
            String part = text.substring(i, Math.min(i + 4, text.length()));
            int bytes = 0;
            for (char c : part.toCharArray()) {
                bytes = bytes * 256 + c;
            }
            feed(bytes, part.length());
        }
    }

    private void feed(int bytes, int n) {
        int want = !in(n, 1, 4) ? found(Check.BEYOND) : tape.length() + n > 120 ? found(Check.FULL) : tape.length() + n;
        due("feed " + bytes + " " + n, x.feed(bytes, n), want);
        for (int i = n - 1; want >= 0 && i >= 0; i--) {
            tape += (char) (bytes >>> 8 * i & 255);
        }
    }

    private String text() {
        StringBuilder text = new StringBuilder();
        int items = 1 + below(3);
        for (int i = 0; i < items; i++) {
            text.append(i == 0 ? "" : blank() + ";" + blank()).append(below(2) == 0 ? personText() : talkText());
        }
        while (below(4) == 0) {
            int at = below(text.length());
            String spoilt = " ;5a9X0\t";
            text.setCharAt(at, spoilt.charAt(below(spoilt.length())));
        }
        if (below(8) == 0) {
            text.setLength(below(text.length()));
        }
        return text.toString();
    }

    private String blank() {
        return " ".repeat(below(3));
    }

    private String personText() {
        StringBuilder text = new StringBuilder(Model.NAMES[below(6)]);
        if (below(2) == 0) {
            text.append(" pride").append(blank()).append(about(0, 20));
        }
        if (below(2) == 0) {
            text.append(" has");
            int n = about(1, 4);
            for (int i = 0; i < n && i < 5; i++) {
                text.append(' ').append(about(0, 3));
            }
        }
        return text.toString();
    }

    private String talkText() {
        StringBuilder text = new StringBuilder("speech ");
        text.append(about(0, m.people.size())).append(' ').append(about(0, 3)).append(' ').append(about(0, 99));
        return below(3) == 0 ? text.toString() : text.append(" at ").append(someone()).toString();
    }

    private long cut(int s, long v) {
        int unused = 64 - bits[s];
        return v << unused >> unused;
    }

    private int unusable(int s) {
        return !in(s, 0, 3) ? found(Check.BEYOND) : sheets[s] == null ? found(Check.MISSING) : 0;
    }

    private void stepOfSheets() {
        int s = about(0, 3);
        int d = someone();
        int t = talk();
        switch (below(7)) {
            case 0:
                lay(s);
                break;
            case 1:
                write(s);
                break;
            case 2:
                copy(s);
                break;
            case 3:
                lays(s);
                break;
            case 4:
                book(s, d);
                break;
            default:
                long want = unusable(s);
                want = want != 0 ? want : !isOne(d) || !isTalk(t) ? found(Check.BEYOND) : pairs(s, d, t);
                due("read " + s + " " + d + " " + t, x.read(s, d, t), want);
                break;
        }
    }

    private void lay(int s) {
        int[] all = {8, 16, 64, 64, 16, 8, 0, 32};
        int b = all[below(8)];
        int n = below(2) == 0 ? about(0, 6) : about(0, 40);
        int want = !in(s, 0, 3) || b == 32 ? found(Check.BEYOND) : n < 0 ? found(Check.SIZE)
                : n > 40 ? found(Check.BEYOND) : b == 0 ? 0 : n;
        due("sheet " + s + " " + b + " " + n, x.sheet(s, b, n), want);
        if (want >= 0) {
            bits[s] = b;
            sheets[s] = b == 0 ? null : new long[n];
        }
    }

    private void write(int s) {
        int size = in(s, 0, 3) && sheets[s] != null ? sheets[s].length : 3;
        int i = about(0, size - 1);
        long v = below(2) == 0 ? chance.nextLong() : below(120) - 10;
        long want = unusable(s);
        boolean may = want == 0 && in(i, 0, size - 1);
        due("write " + s + " " + i, x.write(s, i, v), want != 0 ? want : may ? sheets[s][i] : found(Check.BEYOND));
        if (may) {
            sheets[s][i] = cut(s, v);
        }
    }

    private void copy(int s) {
        int t = about(0, 3);
        int from = about(0, below(2) == 0 ? 3 : 40);
        int to = about(0, below(2) == 0 ? 3 : 40);
        int n = about(0, 5);
        long want;
        if (!in(s, 0, 3) || !in(t, 0, 3)) {
            want = found(Check.BEYOND);
        } else if (sheets[s] == null || sheets[t] == null) {
            want = found(Check.MISSING);
        } else if (bits[s] != bits[t]) {
            want = found(Check.KIND);
        } else if (from < 0 || to < 0 || n < 0 || (long) from + n > sheets[s].length
                || (long) to + n > sheets[t].length) {
            want = found(Check.BEYOND);
        } else {
            want = n;
            long[] were = sheets[s].clone();
            for (int i = 0; i < n; i++) {
                sheets[t][to + i] = were[from + i];
            }
        }
        due("copy " + s + " " + from + " " + t + " " + to + " " + n, x.copy(s, from, t, to, n), want);
    }

    private void lays(int s) {
        int want = unusable(s);
        for (int i = 0; want >= 0 && i < sheets[s].length; i++) {
            if (sheets[s][i] >= 0 && sheets[s][i] < 100 && i < m.talks.size()) {
                m.talks.get(i).force = (int) sheets[s][i];
                want++;
            }
        }
        due("lays " + s, x.lays(s), want);
    }

    private void book(int s, int d) {
        int want = unusable(s);
        want = want != 0 ? want : isOne(d) ? sheets[s].length : found(Check.BEYOND);
        due("book " + s + " " + d, x.book(s, d), want);
        for (int i = 0; i < want; i++) {
            sheets[s][i] = cut(s, m.on(i).people.get(d).hurt);
        }
    }

    private int pairs(int s, int d, int t) {
        int pairs = 0;
        for (int i = 0; i < 600; i++) {
            Model then = m.again();
            then.people.get(d).kind = i / 100;
            then.talks.get(t).force = i % 100;
            int same = 0;
            while (same < sheets[s].length && then.people.get(d).hurt == sheets[s][same]) {
                then.go();
                same++;
            }
            pairs += same == sheets[s].length ? 1 : 0;
        }
        return pairs;
    }

    private void stepOfImages() {
        int what = about(0, 3);
        int which = about(-1, 6);
        switch (below(8)) {
            case 0:
                due("image", x.image(), 1);
                kept = m.again();
                break;
            case 1:
            case 2:
                due("undo", x.undo(), kept == null ? found(Check.NONE) : kept.people.size());
                m = kept == null ? m : kept.again();
                break;
            case 3:
                if (below(4) == 0) {
                    due("tear", x.tear(), kept == null ? 0 : 1);
                    kept = null;
                }
                break;
            case 4:
            case 5:
                int[] counts = {m.people.size(), m.talks.size(), tape.length(), m.wept()};
                due("count " + what, x.count(what), in(what, 0, 3) ? counts[what] : found(Check.BEYOND));
                break;
            default:
                int all = 0;
                for (int f : findings) {
                    all += f;
                }
                due("status " + which, x.status(which),
                        which == -1 ? all : in(which, 0, 6) ? findings[which] : found(Check.BEYOND));
                break;
        }
    }
}
