import java.util.ArrayList;
import java.util.List;
import java.util.regex.Matcher;
import java.util.regex.Pattern;

/**
 * The document's section 1 written a second time, another way: kinds are classes under one another, and a
 * state is never changed but made anew where something is only tried. It takes right arguments alone.
 */
final class Model {
    static final String[] NAMES = {"delegate", "peer", "clerk", "exile", "lord", "scribe"};

    static class Kind {
        int loses(Person p, int f, int t, boolean aimed) {
            return aimed ? f : f / 5;
        }

        int renders(Person p, int f) {
            return f < p.pride ? 0 : f - p.pride;
        }

        boolean weeps(Person p, int session) {
            return p.hurt >= 100;
        }
    }

    static class Peer extends Kind {
        @Override int loses(Person p, int f, int t, boolean aimed) {
            return t != 1 ? 0 : super.loses(p, f, t, aimed);
        }

        @Override int renders(Person p, int f) {
            return f / 2;
        }

        @Override boolean weeps(Person p, int session) {
            return p.hurt >= 400;
        }
    }

    static class Clerk extends Kind {
        @Override int loses(Person p, int f, int t, boolean aimed) {
            return super.loses(p, f, t, aimed) / 2;
        }

        @Override int renders(Person p, int f) {
            return f;
        }

        @Override boolean weeps(Person p, int session) {
            return false;
        }
    }

    static class Exile extends Kind {
        @Override int loses(Person p, int f, int t, boolean aimed) {
            return super.loses(p, f, t, aimed) + (f == 0 ? 0 : p.pride);
        }

        @Override int renders(Person p, int f) {
            int twice = super.renders(p, f) + super.renders(p, f);
            return twice > 99 ? 99 : twice;
        }

        @Override boolean weeps(Person p, int session) {
            return p.hurt >= 40;
        }
    }

    static class Lord extends Peer {
        @Override int loses(Person p, int f, int t, boolean aimed) {
            int less = super.loses(p, f, t, aimed) - p.pride / 2;
            return less < 0 ? 0 : less;
        }

        @Override int renders(Person p, int f) {
            return super.renders(p, f) + p.pride / 4;
        }

        @Override boolean weeps(Person p, int session) {
            return p.pride <= 10 && super.weeps(p, session);
        }
    }

    static class Scribe extends Clerk {
        @Override int loses(Person p, int f, int t, boolean aimed) {
            return super.loses(p, f, t, aimed) + (f >= 10 ? 1 : 0);
        }

        @Override int renders(Person p, int f) {
            return f == 0 ? 0 : super.renders(p, f) - 1;
        }

        @Override boolean weeps(Person p, int session) {
            return session % 7 == 6;
        }
    }

    static final Kind[] KINDS = {new Kind(), new Peer(), new Clerk(), new Exile(), new Lord(), new Scribe()};

    static final class Person {
        int kind;
        int pride = 5;
        int tongues = 1;
        int hurt;
        int wept;

        Person(int kind) {
            this.kind = kind;
        }

        Person again() {
            Person p = new Person(kind);
            p.pride = pride;
            p.tongues = tongues;
            p.hurt = hurt;
            p.wept = wept;
            return p;
        }
    }

    static final class Talk {
        int by;
        int tongue;
        int at;
        int force;

        Talk(int by, int tongue, int at, int force) {
            this.by = by;
            this.tongue = tongue;
            this.at = at;
            this.force = force;
        }
    }

    int session;
    int weeper = -1;
    final List<Person> people = new ArrayList<>();
    final List<Talk> talks = new ArrayList<>();

    Model again() {
        Model m = new Model();
        m.session = session;
        for (Person p : people) {
            m.people.add(p.again());
        }
        for (Talk t : talks) {
            m.talks.add(new Talk(t.by, t.tongue, t.at, t.force));
        }
        return m;
    }

    Model on(int n) {
        Model m = again();
        for (int i = 0; i < n; i++) {
            m.go();
        }
        return m;
    }

    int loses(int d, int s, int force) {
        Talk t = talks.get(s);
        Person p = people.get(d);
        return t.at == -1 || t.by == d ? 0 : KINDS[p.kind].loses(p, force, t.tongue, t.at == d);
    }

    int renders(int d, int s) {
        Person p = people.get(d);
        return KINDS[p.kind].renders(p, talks.get(s).force);
    }

    boolean weeps(int d) {
        Person p = people.get(d);
        return KINDS[p.kind].weeps(p, session);
    }

    int interpreter(int s) {
        Talk t = talks.get(s);
        int chosen = -1;
        for (int d = people.size() - 1; d >= 0; d--) {
            boolean able = d != t.by && (people.get(d).tongues & 1 << t.tongue) != 0;
            int loss = able ? loses(d, s, t.force) : 0;
            if (loss > 0 && (chosen < 0 || loss >= loses(chosen, s, t.force))) {
                chosen = d;
            }
        }
        return chosen;
    }

    int comesOver(int s) {
        int i = interpreter(s);
        return i < 0 ? 0 : renders(i, s);
    }

    void go() {
        weeper = -1;
        if (!talks.isEmpty()) {
            hold(session % talks.size());
        }
        session++;
    }

    private void hold(int s) {
        int i = interpreter(s);
        if (i < 0) {
            return;
        }
        int force = renders(i, s);
        for (int d = 0; d < people.size(); d++) {
            people.get(d).hurt = Math.min(99999, people.get(d).hurt + loses(d, s, force));
        }
        if (weeps(i)) {
            weeper = i;
            people.get(i).wept = Math.min(999, people.get(i).wept + 1);
            people.get(i).hurt /= 2;
            talks.get(s).force /= 2;
        }
    }

    int hurt() {
        return people.stream().mapToInt(p -> p.hurt).sum();
    }

    int wept() {
        return people.stream().mapToInt(p -> p.wept).sum();
    }

    int force() {
        return talks.stream().mapToInt(t -> t.force).sum();
    }

    /** Takes a text in, item by item; -1 less the place of a fault, and then this is of no more use. */
    int take(String text) {
        List<String> words = new ArrayList<>();
        List<Integer> places = new ArrayList<>();
        Matcher matcher = Pattern.compile("[a-z]+|[0-9]+|[^ ]", Pattern.DOTALL).matcher(text);
        while (matcher.find()) {
            words.add(matcher.group());
            places.add(matcher.start());
        }
        words.add("");
        places.add(text.length());
        int at = 0;
        for (int items = 1;; items++) {
            at = words.get(at).equals("speech") ? takeTalk(words, at) : takePerson(words, at);
            if (at < 0) {
                return -1 - places.get(-1 - at);
            }
            if (words.get(at).isEmpty()) {
                return items;
            }
            if (!words.get(at).equals(";")) {
                return -1 - places.get(at);
            }
            at++;
        }
    }

    private static int number(String word) {
        if (!word.matches("[0-9]+")) {
            return Integer.MAX_VALUE;
        }
        String digits = word.replaceFirst("^0+(?=.)", "");
        return digits.length() > 3 ? Integer.MAX_VALUE : Integer.parseInt(digits);
    }

    /** Behind the item, or -1 less the number of the word that can't stand there. */
    private int takePerson(List<String> words, int from) {
        int kind = List.of(NAMES).indexOf(words.get(from));
        if (kind < 0 || people.size() == 8) {
            return -1 - from;
        }
        Person p = new Person(kind);
        people.add(p);
        int at = from + 1;
        if (words.get(at).equals("pride")) {
            p.pride = number(words.get(at + 1));
            if (p.pride > 20) {
                return -1 - (at + 1);
            }
            at += 2;
        }
        if (!words.get(at).equals("has")) {
            return at;
        }
        p.tongues = 0;
        int first = at + 1;
        for (at = first; at == first || at < first + 4 && number(words.get(at)) <= 3; at++) {
            if (number(words.get(at)) > 3) {
                return -1 - at;
            }
            p.tongues |= 1 << number(words.get(at));
        }
        return at;
    }

    private int takeTalk(List<String> words, int from) {
        if (talks.size() == 8) {
            return -1 - from;
        }
        int[] most = {people.size() - 1, 3, 99};
        int[] got = new int[3];
        for (int i = 0; i < 3; i++) {
            got[i] = number(words.get(from + 1 + i));
            if (got[i] > most[i]) {
                return -1 - (from + 1 + i);
            }
        }
        Talk t = new Talk(got[0], got[1], -1, got[2]);
        talks.add(t);
        int at = from + 4;
        if (!words.get(at).equals("at")) {
            return at;
        }
        t.at = number(words.get(at + 1));
        return t.at >= people.size() ? -1 - (at + 1) : at + 2;
    }
}
