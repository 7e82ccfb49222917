/** Promises 1 to 6: each boundary that a sentence of them names, on both sides. */
public final class DelegatesBoundsTest {
    private static final Bounds check = new Bounds();
    private static final int LAST = Scene.PEOPLE - 1;

    public static void main(String[] args) {
        aNewObject();
        aNewObjectKeepsNothing();
        delegate();
        of();
        setOfEach();
        setOfWhatIsNot();
        turn();
        as();
        check.end();
    }

    private static void refusedWhenNew(String call, int finding, Bounds.Ask ask) {
        check.refused(HurtSpeech::new, call, finding, ask);
    }

    private static void aNewObject() {
        check.topic("1: Nobody there");
        refusedWhenNew("of(0, 0)", Check.BEYOND, x -> x.of(0, 0));
        refusedWhenNew("set(0, 1, 0)", Check.BEYOND, x -> x.set(0, 1, 0));
        refusedWhenNew("turn(0, 0)", Check.BEYOND, x -> x.turn(0, 0));
        refusedWhenNew("as(0, 0)", Check.BEYOND, x -> x.as(0, 0));
        refusedWhenNew("speech(0, 0, -1, 0)", Check.BEYOND, x -> x.speech(0, 0, -1, 0));
        refusedWhenNew("speechOf(0, 0)", Check.BEYOND, x -> x.speechOf(0, 0));
        refusedWhenNew("tell(0, 3, 0)", Check.BEYOND, x -> x.tell(0, 3, 0));
        refusedWhenNew("loses(0, 0)", Check.BEYOND, x -> x.loses(0, 0));
        refusedWhenNew("renders(0, 0)", Check.BEYOND, x -> x.renders(0, 0));
        refusedWhenNew("hurts(0)", Check.BEYOND, x -> x.hurts(0));
        refusedWhenNew("on(0, 0, 0)", Check.BEYOND, x -> x.on(0, 0, 0));
        refusedWhenNew("left(0, 0)", Check.BEYOND, x -> x.left(0, 0));
        refusedWhenNew("weeps(0)", Check.BEYOND, x -> x.weeps(0));
        refusedWhenNew("when(0, 0)", Check.BEYOND, x -> x.when(0, 0));
        refusedWhenNew("tongue(0, 1)", Check.BEYOND, x -> x.tongue(0, 1));
        refusedWhenNew("aim(0, 0, 1)", Check.BEYOND, x -> x.aim(0, 0, 1));
        refusedWhenNew("kind(0, 1)", Check.BEYOND, x -> x.kind(0, 1));
        refusedWhenNew("pride(0, 1, 0)", Check.BEYOND, x -> x.pride(0, 1, 0));
        refusedWhenNew("learn(0, 1)", Check.BEYOND, x -> x.learn(0, 1));
        refusedWhenNew("withdraw(1)", Check.NONE, x -> x.withdraw(1));
        refusedWhenNew("saddest(0)", Check.NONE, x -> x.saddest(0));
        check.takes(HurtSpeech::new, "delegate(0)", 0, x -> x.delegate(0));
        check.takes(HurtSpeech::new, "sessions(1)", 0, x -> x.sessions(1));
        check.tells(HurtSpeech::new, "now(1)", -1, x -> x.now(1));
        for (int what = 0; what <= 3; what++) {
            int asked = what;
            check.tells(HurtSpeech::new, "count(" + what + ")", 0, x -> x.count(asked));
        }
    }

    private static void aNewObjectKeepsNothing() {
        check.topic("1: THE TAPE is empty, no image is kept.");
        check.tells(HurtSpeech::new, "wipe()", 0, HurtSpeech::wipe);
        check.tells(HurtSpeech::new, "congress()", -1, HurtSpeech::congress);
        check.tells(HurtSpeech::new, "tear()", 0, HurtSpeech::tear);
        refusedWhenNew("undo()", Check.NONE, HurtSpeech::undo);
        check.topic("SHEETS are MISSING (at first)");
        for (int s = 0; s < 4; s++) {
            int sheet = s;
            refusedWhenNew("write(" + s + ", 0, 0)", Check.MISSING, x -> x.write(sheet, 0, 0));
            refusedWhenNew("copy(" + s + ", 0, " + s + ", 0, 0)", Check.MISSING, x -> x.copy(sheet, 0, sheet, 0, 0));
            refusedWhenNew("lays(" + s + ")", Check.MISSING, x -> x.lays(sheet));
            refusedWhenNew("book(" + s + ", 0)", Check.MISSING, x -> x.book(sheet, 0));
            refusedWhenNew("read(" + s + ", 0, 0)", Check.MISSING, x -> x.read(sheet, 0, 0));
        }
    }

    private static void delegate() {
        check.topic("2: One more: the number. BEYOND: kind.");
        check.takes(Scene::busy, "delegate(0)", Scene.PEOPLE, x -> x.delegate(0));
        check.takes(Scene::busy, "delegate(5)", Scene.PEOPLE, x -> x.delegate(5));
        check.beyond(Scene::busy, "delegate(?)", 0, 5, HurtSpeech::delegate);
        check.topic("2: FULL. DELEGATES (at most 8)");
        HurtSpeech x = new HurtSpeech();
        for (int d = 0; d < 8; d++) {
            check.due("delegate(1), the " + d + "th", x.delegate(1), d);
        }
        check.due("delegate(1), the ninth", x.delegate(1), Check.FULL);
        check.refused(Scene::full, "delegate(0)", Check.FULL, y -> y.delegate(0));
        check.refused(Scene::full, "delegate(5)", Check.FULL, y -> y.delegate(5));
        check.topic("2: BEYOND, and FULL behind it");
        check.beyond(Scene::full, "delegate(?)", 0, 5, HurtSpeech::delegate);
    }

    private static void of() {
        check.topic("3: BEYOND.");
        check.tells(Scene::busy, "of(0, 0)", 0, x -> x.of(0, 0));
        check.tells(Scene::busy, "of(6, 0)", 2, x -> x.of(LAST, 0));
        check.tells(Scene::busy, "of(6, 5)", 0, x -> x.of(LAST, 5));
        check.tells(Scene::full, "of(7, 0)", 2, x -> x.of(7, 0));
        check.beyond(Scene::busy, "of(?, 0)", 0, LAST, (x, v) -> x.of(v, 0));
        check.beyond(Scene::busy, "of(?, 5)", 0, LAST, (x, v) -> x.of(v, 5));
        check.beyond(Scene::full, "of(?, 3)", 0, 7, (x, v) -> x.of(v, 3));
        check.beyond(Scene::busy, "of(0, ?)", 0, 5, (x, v) -> x.of(0, v));
        check.topic("3: TONGUES, as a set");
        check.takes(Scene::busy, "of(0, 2)", 1, x -> x.of(0, 2));
        check.takes(Scene::busy, "of(1, 2)", 3, x -> x.of(1, 2));
        check.takes(Scene::busy, "of(2, 2)", 6, x -> x.of(2, 2));
        check.takes(Scene::busy, "of(5, 2)", 9, x -> x.of(5, 2));
        check.topic("3: 5 1 if he would WEEP in this SESSION, with HURT as it is, else 0");
        HurtSpeech x = Check.told("scribe;speech 0 0 0");
        for (int session = 0; session < 15; session++) {
            check.due("of(0, 5) in " + session, x.of(0, 5), session % 7 == 6 ? 1 : 0);
            x.sessions(1);
        }
    }

    private static void setOfEach() {
        check.topic("4: PRIDE, TONGUES (0 to 15), HURT, WEPT of one becomes v: what it was. BEYOND.");
        int[] first = {0, 5, 1, 0, 0};
        int[] most = {0, 20, 15, 99999, 999};
        for (int what = 1; what <= 4; what++) {
            int w = what;
            int last = most[what];
            String call = "set(6, " + what + ", ";
            check.takes(Scene::busy, call + "0)", first[what], x -> x.set(LAST, w, 0));
            check.takes(Scene::busy, call + last + ")", first[what], x -> x.set(LAST, w, last));
            check.takes(Scene::busy, call + last + "), of it", last, x -> 0 * x.set(LAST, w, last) + x.of(LAST, w));
            check.takes(Scene::busy, call + "0), of it", 0, x -> 0 * x.set(LAST, w, 0) + x.of(LAST, w));
            check.takes(Scene::busy, call + "0), twice", 0, x -> 0 * x.set(LAST, w, 0) + x.set(LAST, w, 0));
            check.beyond(Scene::busy, call + "?)", 0, last, (x, v) -> x.set(LAST, w, v));
            check.leaves(Scene::busy, call + "what it is)", x -> x.set(LAST, w, x.of(LAST, w)), x -> 0);
        }
    }

    private static void setOfWhatIsNot() {
        check.topic("4: BEYOND: no such what, no such one");
        for (int v = -1; v <= 5; v++) {
            int value = v;
            check.refused(Scene::busy, "set(6, 0, " + v + ")", Check.BEYOND, x -> x.set(LAST, 0, value));
            check.refused(Scene::busy, "set(6, 5, " + v + ")", Check.BEYOND, x -> x.set(LAST, 5, value));
        }
        check.beyond(Scene::busy, "set(6, ?, 0)", 1, 4, (x, v) -> x.set(LAST, v, 0));
        check.beyond(Scene::busy, "set(?, 1, 0)", 0, LAST, (x, v) -> x.set(v, 1, 0));
        check.beyond(Scene::busy, "set(?, 3, 99999)", 0, LAST, (x, v) -> x.set(v, 3, 99999));
        check.beyond(Scene::full, "set(?, 4, 999)", 0, 7, (x, v) -> x.set(v, 4, 999));
        check.takes(Scene::full, "set(7, 4, 999)", 0, x -> x.set(7, 4, 999));
    }

    private static void turn() {
        check.topic("5: One becomes one of another KIND: what it was. BEYOND.");
        check.takes(Scene::busy, "turn(0, 5)", 0, x -> x.turn(0, 5));
        check.takes(Scene::busy, "turn(0, 5), of(0, 0)", 5, x -> 0 * x.turn(0, 5) + x.of(0, 0));
        check.takes(Scene::busy, "turn(6, 0)", 2, x -> x.turn(LAST, 0));
        check.takes(Scene::busy, "turn(6, 0), of(6, 0)", 0, x -> 0 * x.turn(LAST, 0) + x.of(LAST, 0));
        check.tells(Scene::busy, "turn(6, 2), what it is", 2, x -> x.turn(LAST, 2));
        check.beyond(Scene::busy, "turn(6, ?)", 0, 5, (x, v) -> x.turn(LAST, v));
        check.beyond(Scene::busy, "turn(?, 0)", 0, LAST, (x, v) -> x.turn(v, 0));
        check.beyond(Scene::full, "turn(?, 5)", 0, 7, (x, v) -> x.turn(v, 5));
        check.leaves(Scene::busy, "turn(3, 1) and back", x -> x.turn(3, x.turn(3, 1)), x -> 0);
    }

    private static void as() {
        check.topic("6: BEYOND: no such one, kind.");
        check.beyond(Scene::busy, "as(?, 0)", 0, LAST, (x, v) -> x.as(v, 0));
        check.beyond(Scene::full, "as(?, 0)", 0, 7, (x, v) -> x.as(v, 0));
        check.beyond(Scene::busy, "as(0, ?)", 0, 5, (x, v) -> x.as(0, v));
        check.beyond(Scene::busy, "as(5, ?)", 0, 5, (x, v) -> x.as(5, v));
        check.topic("6: BEYOND, and KIND behind it");
        check.beyond(Scene::busy, "as(?, 5)", 0, LAST, (x, v) -> x.as(v, 5));
        check.topic("6: KIND: it isn't of that kind, nor of one under it.");
        String[] under = {"0", "01", "02", "03", "014", "025"};
        for (int d = 0; d < 6; d++) {
            for (int kind = 0; kind < 6; kind++) {
                int one = d;
                int asked = kind;
                String call = "as(" + d + ", " + kind + ")";
                if (under[d].indexOf('0' + kind) >= 0) {
                    check.tells(Scene::busy, call, Scene.busy().of(d, 3), x -> x.as(one, asked));
                } else {
                    check.refused(Scene::busy, call, Check.KIND, x -> x.as(one, asked));
                }
            }
        }
        check.takes(Scene::full, "as(7, 2), with HURT 99999", 99999, x -> 0 * x.set(7, 3, 99999) + x.as(7, 2));
    }
}
