import java.util.List;
import java.util.function.Function;
import java.util.function.Supplier;

/**
 * A check of both sides of a boundary. What is refused has to change nothing but status(): of two objects made
 * alike one is asked, and then both have to answer alike whatever can be asked of them.
 */
final class Bounds extends Check {
    interface Ask {
        long of(HurtSpeech x);
    }

    interface AskWith {
        long of(HurtSpeech x, int v);
    }

    /** The call answers so; what it changes is not looked at. */
    void takes(Supplier<HurtSpeech> scene, String call, long want, Ask ask) {
        due(call, ask.of(scene.get()), want);
    }

    /** The call answers so, and changes nothing at all. */
    void tells(Supplier<HurtSpeech> scene, String call, long want, Ask ask) {
        due(call, ask.of(scene.get()), want);
        leaves(scene, call, ask, x -> 0);
    }

    /** The call answers a finding, which is counted, and changes nothing else. */
    void refused(Supplier<HurtSpeech> scene, String call, int finding, Ask ask) {
        HurtSpeech asked = scene.get();
        HurtSpeech other = scene.get();
        due(call, ask.of(asked), finding);
        for (int which = -1; which <= 6; which++) {
            int more = which == -1 || which == BEYOND - finding ? 1 : 0;
            due(call + ", then status(" + which + ")", asked.status(which), other.status(which) + more);
        }
        leaves(scene, call, ask, x -> 0);
    }

    /** A number, told as ? in the call, may be least to most: those just outside and far away are BEYOND. */
    void beyond(Supplier<HurtSpeech> scene, String call, int least, int most, AskWith ask) {
        refused(scene, told(call, least - 1), BEYOND, x -> ask.of(x, least - 1));
        refused(scene, told(call, most + 1), BEYOND, x -> ask.of(x, most + 1));
        for (int far : FAR) {
            if (far < least || far > most) {
                refused(scene, told(call, far), BEYOND, x -> ask.of(x, far));
            }
        }
    }

    /** Two calls, put to objects made alike, leave them alike. */
    void leaves(Supplier<HurtSpeech> scene, String call, Ask ask, Ask otherAsk) {
        for (Function<HurtSpeech, List<Long>> question : Scene.QUESTIONS) {
            HurtSpeech asked = scene.get();
            HurtSpeech other = scene.get();
            ask.of(asked);
            otherAsk.of(other);
            List<Long> got = question.apply(asked);
            List<Long> want = question.apply(other);
            holds(call + " leaves all the rest as it is", got.equals(want));
        }
    }

    private static String told(String call, int v) {
        return call.replace("?", Integer.toString(v));
    }
}
