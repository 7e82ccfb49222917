import java.util.function.Supplier;

/** Promises 35 to 39: each boundary that a sentence of them names, on both sides. */
public final class ImagesBoundsTest {
    private static final Bounds check = new Bounds();

    public static void main(String[] args) {
        image();
        undo();
        undoOfMuch();
        tear();
        count();
        countAtMost();
        status();
        statusOfEach();
        statusIsNotTakenBack();
        check.end();
    }

    private static void image() {
        check.topic("35: All that section 1 tells (THE TAPE not) is kept: 1.");
        check.takes(HurtSpeech::new, "image()", 1, HurtSpeech::image);
        check.takes(Scene::busy, "image()", 1, HurtSpeech::image);
        check.takes(Scene::full, "image(), twice", 1, x -> 0 * x.image() + x.image());
        check.leaves(Scene::busy, "image() and undo()", x -> x.image() + x.undo(), HurtSpeech::image);
        check.topic("35: of nobody, and of all that there may be");
        Supplier<HurtSpeech> none = () -> {
            HurtSpeech x = new HurtSpeech();
            x.image();
            return x;
        };
        check.tells(none, "undo()", 0, HurtSpeech::undo);
        check.takes(none, "undo() behind delegate(0)", 0, x -> 0 * x.delegate(0) + x.undo());
        check.takes(none, "count(0) then", 0, x -> 0 * (x.delegate(0) + x.undo()) + x.count(0));
        check.takes(none, "now(0) then", 0, x -> 0 * (x.sessions(100) + x.undo()) + x.now(0));
        check.takes(Scene::full, "undo() of eight", 8, x -> 0 * x.image() + x.undo());
    }

    private static void undo() {
        check.topic("36: NONE: nothing is kept.");
        check.refused(HurtSpeech::new, "undo()", Check.NONE, HurtSpeech::undo);
        check.refused(Scene::full, "undo()", Check.NONE, HurtSpeech::undo);
        check.topic("36: It becomes what was kept latest: how many DELEGATES.");
        check.takes(Scene::busy, "undo(), to six", 6, HurtSpeech::undo);
        check.takes(Scene::busy, "image(), undo(), to seven", 7, x -> 0 * x.image() + x.undo());
        check.topic("36: (which stays)");
        check.leaves(Scene::busy, "undo(), twice", x -> x.undo() + x.undo(), HurtSpeech::undo);
        check.leaves(Scene::busy, "undo() behind what came after it", x -> {
            x.undo();
            x.delegate(5);
            x.set(0, 3, 99999);
            x.sessions(3);
            return x.undo();
        }, HurtSpeech::undo);
    }

    /** All that can be changed is, and comes back, but for the tape, the sheets and status(). */
    private static void undoOfMuch() {
        check.topic("36: All that section 1 tells");
        check.leaves(Scene::busy, "image(), all changed, undo()", x -> {
            x.image();
            for (int d = 0; d < Scene.PEOPLE; d++) {
                x.turn(d, 5 - x.of(d, 0));
                x.set(d, 1, 20);
                x.set(d, 2, 15 - x.of(d, 2));
                x.set(d, 3, 99999);
                x.set(d, 4, 999);
            }
            for (int s = 0; s < Scene.TALKS; s++) {
                x.tell(s, 0, 6 - x.speechOf(s, 0));
                x.tell(s, 1, 3 - x.speechOf(s, 1));
                x.tell(s, 2, 5 - x.speechOf(s, 2));
                x.tell(s, 3, 99 - x.speechOf(s, 3));
            }
            x.delegate(0);
            x.speech(7, 0, 7, 9);
            x.sessions(100);
            return x.undo();
        }, HurtSpeech::image);
        check.topic("36: one who comes then is as new as any");
        HurtSpeech y = Scene.busy();
        for (int what = 1; what <= 4; what++) {
            y.set(6, what, 9);
        }
        check.due("undo(), to six", y.undo(), 6);
        check.due("delegate(3)", y.delegate(3), 6);
        int[] first = {3, 5, 1, 0, 0, 0};
        for (int what = 0; what <= 5; what++) {
            check.due("of(6, " + what + ")", y.of(6, what), first[what]);
        }
        check.topic("36: THE TAPE not, nor sheets");
        check.leaves(Scene::busy, "image(), tape and sheets changed, undo()", x -> {
            x.image();
            x.feed(' ', 1);
            x.write(0, 0, 77);
            x.sheet(3, 8, 40);
            return x.undo();
        }, x -> {
            x.feed(' ', 1);
            x.write(0, 0, 77);
            x.sheet(3, 8, 40);
            return x.image();
        });
    }

    private static void tear() {
        check.topic("37: Nothing is kept: 1 if something was, else 0.");
        check.tells(HurtSpeech::new, "tear() of nothing", 0, HurtSpeech::tear);
        check.tells(Scene::full, "tear() of nothing", 0, HurtSpeech::tear);
        check.takes(Scene::busy, "tear()", 1, HurtSpeech::tear);
        check.takes(Scene::busy, "tear(), twice", 0, x -> 0 * x.tear() + x.tear());
        check.takes(Scene::busy, "image(), tear(), twice: no older one is kept", 0,
                x -> 0 * (x.image() + x.tear()) + x.tear());
        check.takes(Scene::busy, "undo(), tear()", 1, x -> 0 * x.undo() + x.tear());
        check.takes(Scene::busy, "tear(), image(), tear()", 1, x -> 0 * (x.tear() + x.image()) + x.tear());
        Supplier<HurtSpeech> torn = () -> {
            HurtSpeech x = Scene.busy();
            x.tear();
            return x;
        };
        check.refused(torn, "tear(), undo()", Check.NONE, HurtSpeech::undo);
        check.leaves(Scene::busy, "tear(), image()", x -> x.tear() + x.image(), HurtSpeech::image);
    }

    private static void count() {
        check.topic("38: 0 DELEGATES, 1 SPEECHES, 2 bytes of THE TAPE, 3 WEPT of all together.");
        int[] ofNew = {0, 0, 0, 0};
        int[] ofFull = {8, 8, 120, 0};
        for (int what = 0; what <= 3; what++) {
            int asked = what;
            check.tells(HurtSpeech::new, "count(" + what + ")", ofNew[what], x -> x.count(asked));
            check.tells(Scene::full, "count(" + what + ")", ofFull[what], x -> x.count(asked));
        }
        check.topic("38: BEYOND: another what.");
        check.beyond(HurtSpeech::new, "count(?)", 0, 3, HurtSpeech::count);
        check.beyond(Scene::busy, "count(?)", 0, 3, HurtSpeech::count);
    }

    private static void countAtMost() {
        check.topic("38: 3 WEPT of all together");
        HurtSpeech x = Scene.full();
        for (int d = 0; d < 8; d++) {
            x.set(d, 4, 999);
            check.due("count(3)", x.count(3), 999 * (d + 1));
        }
    }

    private static void status() {
        check.topic("39: which -1: all, 0 to 6: BEYOND to SIZE.");
        for (int which = -1; which <= 6; which++) {
            int asked = which;
            check.tells(HurtSpeech::new, "status(" + which + ")", 0, x -> x.status(asked));
            check.tells(Scene::busy, "status(" + which + ")", 0, x -> x.status(asked));
        }
        check.topic("39: BEYOND (counted from then on): another one.");
        check.beyond(HurtSpeech::new, "status(?)", -1, 6, HurtSpeech::status);
        check.beyond(Scene::busy, "status(?)", -1, 6, HurtSpeech::status);
        HurtSpeech x = new HurtSpeech();
        for (int i = 1; i <= 50; i++) {
            check.due("status(7)", x.status(7), Check.BEYOND);
            check.due("status(0)", x.status(0), 2 * i - 1);
            check.due("status(-2)", x.status(-2), Check.BEYOND);
            check.due("status(-1)", x.status(-1), 2 * i);
        }
    }

    /** STATE can't be had within 512 calls: SessionsBoundsTest looks at it. */
    private static void statusOfEach() {
        check.topic("39: How many acts answered a finding ever");
        HurtSpeech x = Scene.full();
        Bounds.Ask[] asks = {y -> y.of(8, 0), y -> y.delegate(0), y -> y.as(0, 5), y -> y.undo(), null,
            y -> y.write(0, 0, 0), y -> y.sheet(0, 8, -1)};
        int[] want = new int[7];
        int all = 0;
        for (int round = 1; round <= 3; round++) {
            for (int i = 0; i < 7; i++) {
                if (asks[i] == null) {
                    continue;
                }
                check.due("a finding", asks[i].of(x), Check.BEYOND - i);
                want[i]++;
                all++;
                for (int which = 0; which < 7; which++) {
                    check.due("status(" + which + ")", x.status(which), want[which]);
                }
                check.due("status(-1)", x.status(-1), all);
            }
        }
        check.topic("39: answers that are below 0 and no finding");
        HurtSpeech y = Check.told("delegate;speech 0 0 0");
        check.due("speechOf(0, 2)", y.speechOf(0, 2), -1);
        check.due("congress()", y.congress(), -1);
        check.due("tell(0, 2, 0)", y.tell(0, 2, 0), -1);
        check.due("status(-1)", y.status(-1), 0);
    }

    private static void statusIsNotTakenBack() {
        check.topic("39: (undo() takes none back)");
        HurtSpeech x = new HurtSpeech();
        x.image();
        x.delegate(6);
        x.saddest(0);
        check.due("undo()", x.undo(), 0);
        check.due("status(0)", x.status(0), 1);
        check.due("status(3)", x.status(3), 1);
        check.due("status(-1)", x.status(-1), 2);
        x.tear();
        x.wipe();
        check.due("status(-1), then", x.status(-1), 2);
        check.due("undo(), of nothing", x.undo(), Check.NONE);
        check.due("status(-1), one more", x.status(-1), 3);
    }
}
