/**
 * A congress at which a speech is translated by whoever it would hurt.
 * The promises are those of DOC.md; README.md tells how it is used.
 */
public final class HurtSpeech {
    private static final int BEYOND = -1000000001;
    private static final int FULL = -1000000002;
    private static final int KIND = -1000000003;
    private static final int NONE = -1000000004;
    private static final int STATE = -1000000005;
    private static final int MISSING = -1000000006;
    private static final int SIZE = -1000000007;
    private static final int FINDINGS = 7;

    private static final int MOST_SESSION = 99999;
    private static final int MOST_GOING = 100;
    private static final int MOST_FORESEEN = 200;
    private static final int MOST_PLANNED = 60;

    private static final int NOBODY = -1;
    private static final int ALL = -1;

    private final Congress live;
    private final Congress kept;
    /** Where all that only might be is tried, so that no call makes a new congress. */
    private final Congress trial;
    private final Tape tape;
    private final Sheets sheets;
    private final int[] findings;
    private boolean isKept;

    public HurtSpeech() {
        live = new Congress();
        kept = new Congress();
        trial = new Congress();
        tape = new Tape();
        sheets = new Sheets();
        findings = new int[FINDINGS];
        isKept = false;
    }

    // ---- delegates

    public int delegate(int kind) {
        if (!isWithin(kind, 0, Congress.KINDS - 1)) {
            return found(BEYOND);
        }
        if (live.delegates >= Congress.MOST_DELEGATES) {
            return found(FULL);
        }
        return live.addDelegate(kind);
    }

    public int of(int delegate, int what) {
        if (!live.hasDelegate(delegate) || !isWithin(what, 0, 5)) {
            return found(BEYOND);
        }
        if (what == 5) {
            return live.wouldWeep(delegate) ? 1 : 0;
        }
        return live.delegateRow(what)[delegate];
    }

    public int set(int delegate, int what, int v) {
        if (!live.hasDelegate(delegate) || !isWithin(v, 0, Congress.mostOf(what))) {
            return found(BEYOND);
        }
        return exchange(live.delegateRow(what), delegate, v);
    }

    public int turn(int delegate, int kind) {
        if (!live.hasDelegate(delegate) || !isWithin(kind, 0, Congress.KINDS - 1)) {
            return found(BEYOND);
        }
        return exchange(live.kind, delegate, kind);
    }

    public int as(int delegate, int kind) {
        if (!live.hasDelegate(delegate) || !isWithin(kind, 0, Congress.KINDS - 1)) {
            return found(BEYOND);
        }
        if (!Congress.isUnder(live.kind[delegate], kind)) {
            return found(KIND);
        }
        return live.hurt[delegate];
    }

    // ---- speeches

    public int speech(int by, int tongue, int at, int force) {
        if (!live.mayTell(Congress.BY, by) || !live.mayTell(Congress.TONGUE, tongue)
                || !live.mayTell(Congress.AIMED, at) || !live.mayTell(Congress.FORCE, force)) {
            return found(BEYOND);
        }
        if (live.speeches >= Congress.MOST_SPEECHES) {
            return found(FULL);
        }
        return live.addSpeech(by, tongue, at, force);
    }

    public int speechOf(int speech, int what) {
        if (!live.hasSpeech(speech) || !isWithin(what, 0, 5)) {
            return found(BEYOND);
        }
        if (what == 4) {
            return live.interpreterOf(speech);
        }
        if (what == 5) {
            return live.comesOverWith(speech);
        }
        return live.speechRow(what)[speech];
    }

    public int tell(int speech, int what, int v) {
        if (!live.hasSpeech(speech) || !live.mayTell(what, v)) {
            return found(BEYOND);
        }
        return exchange(live.speechRow(what), speech, v);
    }

    public int loses(int delegate, int speech) {
        if (!live.hasDelegate(delegate) || !live.hasSpeech(speech)) {
            return found(BEYOND);
        }
        return live.lossOf(delegate, speech, live.force[speech]);
    }

    public int renders(int delegate, int speech) {
        if (!live.hasDelegate(delegate) || !live.hasSpeech(speech)) {
            return found(BEYOND);
        }
        return live.renderedBy(delegate, live.force[speech]);
    }

    public int hurts(int speech) {
        if (!live.hasSpeech(speech)) {
            return found(BEYOND);
        }
        return live.hurtBy(speech);
    }

    // ---- sessions

    public int sessions(int n) {
        if (!isWithin(n, 1, MOST_GOING)) {
            return found(BEYOND);
        }
        if (live.session + n > MOST_SESSION) {
            return found(STATE);
        }
        live.goOn(n);
        return live.hurtOfAll();
    }

    public int now(int what) {
        switch (what) {
            case 0:
                return live.session;
            case 1:
                return live.nextSpeech();
            case 2:
                return live.hurtOfAll();
            case 3:
                return live.forceOfAll();
            case 4:
                return live.gestured();
            default:
                return found(BEYOND);
        }
    }

    public int on(int delegate, int n, int what) {
        if (!live.hasDelegate(delegate) || !isWithin(n, 0, MOST_FORESEEN) || !isWithin(what, 0, 1)) {
            return found(BEYOND);
        }
        foresee(n);
        return what == 0 ? trial.hurt[delegate] : trial.wept[delegate];
    }

    public int left(int speech, int n) {
        if (!live.hasSpeech(speech) || !isWithin(n, 0, MOST_FORESEEN)) {
            return found(BEYOND);
        }
        foresee(n);
        return trial.force[speech];
    }

    public int weeps(int delegate) {
        if (!live.hasDelegate(delegate)) {
            return found(BEYOND);
        }
        foresee(0);
        for (int n = 1; n <= MOST_FORESEEN; n++) {
            if (trial.goOne() == delegate) {
                return n;
            }
        }
        return found(NONE);
    }

    public int when(int delegate, int v) {
        if (!live.hasDelegate(delegate) || !isWithin(v, 0, Congress.MOST_HURT)) {
            return found(BEYOND);
        }
        foresee(0);
        for (int n = 0; n <= MOST_FORESEEN; n++) {
            if (trial.hurt[delegate] >= v) {
                return n;
            }
            trial.goOne();
        }
        return found(NONE);
    }

    // ---- what is best

    public int tongue(int speech, int n) {
        if (!live.hasSpeech(speech) || !isWithin(n, 1, MOST_PLANNED)) {
            return found(BEYOND);
        }
        return leastHurting(Congress.TO_TONGUE, speech, Congress.TONGUES, ALL, n);
    }

    public int aim(int speech, int delegate, int n) {
        if (!live.hasSpeech(speech) || !live.hasDelegate(delegate) || !isWithin(n, 1, MOST_PLANNED)) {
            return found(BEYOND);
        }
        int best = 0;
        int most = -1;
        for (int place = 0; place <= live.delegates; place++) {
            int hurt = hurtIf(Congress.TO_AIM, speech, place, delegate, n);
            if (hurt > most) {
                most = hurt;
                best = place;
            }
        }
        return best;
    }

    public int kind(int delegate, int n) {
        if (!live.hasDelegate(delegate) || !isWithin(n, 1, MOST_PLANNED)) {
            return found(BEYOND);
        }
        return leastHurting(Congress.TO_KIND, delegate, Congress.KINDS, delegate, n);
    }

    public int pride(int delegate, int n, int v) {
        if (!live.hasDelegate(delegate) || !isWithin(n, 1, MOST_PLANNED)
                || !isWithin(v, 0, Congress.MOST_HURT)) {
            return found(BEYOND);
        }
        for (int pride = 0; pride <= Congress.MOST_PRIDE; pride++) {
            if (hurtIf(Congress.TO_PRIDE, delegate, pride, ALL, n) <= v) {
                return pride;
            }
        }
        return found(NONE);
    }

    public int learn(int delegate, int n) {
        if (!live.hasDelegate(delegate) || !isWithin(n, 1, MOST_PLANNED)) {
            return found(BEYOND);
        }
        return leastHurting(Congress.TO_TONGUES, delegate, Congress.TONGUE_SETS, delegate, n);
    }

    public int withdraw(int n) {
        if (!isWithin(n, 1, MOST_PLANNED)) {
            return found(BEYOND);
        }
        if (live.speeches == 0) {
            return found(NONE);
        }
        return leastHurting(Congress.TO_WITHDRAWN, 0, live.speeches, ALL, n);
    }

    public int saddest(int n) {
        if (!isWithin(n, 0, MOST_FORESEEN)) {
            return found(BEYOND);
        }
        if (live.delegates == 0) {
            return found(NONE);
        }
        foresee(n);
        return trial.mostHurt();
    }

    // ---- the text

    public int feed(int bytes, int n) {
        if (!isWithin(n, 1, 4)) {
            return found(BEYOND);
        }
        if (tape.size + n > Tape.MOST_BYTES) {
            return found(FULL);
        }
        tape.add(bytes, n);
        return tape.size;
    }

    public int wipe() {
        return tape.clear();
    }

    public int congress() {
        foresee(0);
        int items = tape.tellTo(trial);
        tape.clear();
        if (items > 0) {
            live.takeFrom(trial);
        }
        return items;
    }

    // ---- sheets

    public int sheet(int s, int bits, int n) {
        if (!Sheets.isOne(s) || !Sheets.mayHave(bits)) {
            return found(BEYOND);
        }
        if (n < 0) {
            return found(SIZE);
        }
        if (n > Sheets.MOST_NUMBERS) {
            return found(BEYOND);
        }
        return sheets.lay(s, bits, n);
    }

    public long write(int s, int i, long v) {
        int finding = findingOfSheet(s);
        if (finding != 0) {
            return found(finding);
        }
        if (!isWithin(i, 0, sheets.sizes[s] - 1)) {
            return found(BEYOND);
        }
        long was = sheets.numberAt(s, i);
        sheets.put(s, i, v);
        return was;
    }

    public int copy(int s, int from, int t, int to, int n) {
        if (!Sheets.isOne(s) || !Sheets.isOne(t)) {
            return found(BEYOND);
        }
        if (sheets.isMissing(s) || sheets.isMissing(t)) {
            return found(MISSING);
        }
        if (sheets.bits[s] != sheets.bits[t]) {
            return found(KIND);
        }
        if (!sheets.hasPart(s, from, n) || !sheets.hasPart(t, to, n)) {
            return found(BEYOND);
        }
        sheets.move(s, from, t, to, n);
        return n;
    }

    public int lays(int s) {
        int finding = findingOfSheet(s);
        if (finding != 0) {
            return found(finding);
        }
        int came = 0;
        for (int i = 0; i < sheets.sizes[s] && i < live.speeches; i++) {
            long number = sheets.numberAt(s, i);
            if (number >= 0 && number <= Congress.MOST_FORCE) {
                live.force[i] = (int) number;
                came++;
            }
        }
        return came;
    }

    public int book(int s, int delegate) {
        int finding = findingOfSheet(s);
        if (finding != 0) {
            return found(finding);
        }
        if (!live.hasDelegate(delegate)) {
            return found(BEYOND);
        }
        foresee(0);
        for (int i = 0; i < sheets.sizes[s]; i++) {
            sheets.put(s, i, trial.hurt[delegate]);
            trial.goOne();
        }
        return sheets.sizes[s];
    }

    public int read(int s, int delegate, int speech) {
        int finding = findingOfSheet(s);
        if (finding != 0) {
            return found(finding);
        }
        if (!live.hasDelegate(delegate) || !live.hasSpeech(speech)) {
            return found(BEYOND);
        }
        int pairs = 0;
        for (int kind = 0; kind < Congress.KINDS; kind++) {
            for (int force = 0; force <= Congress.MOST_FORCE; force++) {
                foresee(0);
                trial.kind[delegate] = kind;
                trial.force[speech] = force;
                if (isHurtAsOnSheet(delegate, s)) {
                    pairs++;
                }
            }
        }
        return pairs;
    }

    // ---- images

    public int image() {
        kept.takeFrom(live);
        isKept = true;
        return 1;
    }

    public int undo() {
        if (!isKept) {
            return found(NONE);
        }
        live.takeFrom(kept);
        return live.delegates;
    }

    public int tear() {
        int was = isKept ? 1 : 0;
        isKept = false;
        return was;
    }

    public int count(int what) {
        switch (what) {
            case 0:
                return live.delegates;
            case 1:
                return live.speeches;
            case 2:
                return tape.size;
            case 3:
                return live.weptOfAll();
            default:
                return found(BEYOND);
        }
    }

    public int status(int which) {
        if (!isWithin(which, -1, FINDINGS - 1)) {
            return found(BEYOND);
        }
        if (which >= 0) {
            return findings[which];
        }
        int all = 0;
        for (int i = 0; i < FINDINGS; i++) {
            all += findings[i];
        }
        return all;
    }

    // ---- what the calls share

    private static boolean isWithin(int v, int least, int most) {
        return v >= least && v <= most;
    }

    private static int exchange(int[] row, int i, int v) {
        int was = row[i];
        row[i] = v;
        return was;
    }

    private int found(int finding) {
        int i = BEYOND - finding;
        if (isWithin(i, 0, FINDINGS - 1)) {
            findings[i]++;
        }
        return finding;
    }

    /** BEYOND or MISSING, where a sheet can't be used; else 0. */
    private int findingOfSheet(int s) {
        if (!Sheets.isOne(s)) {
            return BEYOND;
        }
        return sheets.isMissing(s) ? MISSING : 0;
    }

    /** The trial becomes what there is n sessions on. */
    private void foresee(int n) {
        trial.takeFrom(live);
        trial.goOn(n);
    }

    /** HURT of one, or of ALL together, n sessions on, if one thing were another now. */
    private int hurtIf(int change, int which, int v, int whose, int n) {
        trial.takeFrom(live);
        trial.alter(change, which, v);
        trial.goOn(n);
        return whose == ALL ? trial.hurtOfAll() : trial.hurt[whose];
    }

    /** The least of the values below a bound with which hurtIf is least; 0 is below each bound. */
    private int leastHurting(int change, int which, int bound, int whose, int n) {
        int best = 0;
        int least = hurtIf(change, which, 0, whose, n);
        for (int v = 1; v < bound; v++) {
            int hurt = hurtIf(change, which, v, whose, n);
            if (hurt < least) {
                least = hurt;
                best = v;
            }
        }
        return best;
    }

    /** Whether the trial, as it goes on, hurts one just as a sheet tells. */
    private boolean isHurtAsOnSheet(int delegate, int s) {
        for (int i = 0; i < sheets.sizes[s]; i++) {
            if (trial.hurt[delegate] != sheets.numberAt(s, i)) {
                return false;
            }
            trial.goOne();
        }
        return true;
    }

    /** All that section 1 of the document tells, but THE TAPE. */
    private static final class Congress {
        static final int MOST_DELEGATES = 8;
        static final int MOST_SPEECHES = 8;
        static final int MOST_PRIDE = 20;
        static final int MOST_HURT = 99999;
        static final int MOST_WEPT = 999;
        static final int MOST_FORCE = 99;
        static final int TONGUES = 4;
        static final int TONGUE_SETS = 16;
        static final int FIRST_PRIDE = 5;
        static final int FRENCH = 1;

        static final int KINDS = 6;
        static final int DELEGATE = 0;
        static final int PEER = 1;
        static final int CLERK = 2;
        static final int EXILE = 3;
        static final int LORD = 4;
        static final int SCRIBE = 5;

        static final int BY = 0;
        static final int TONGUE = 1;
        static final int AIMED = 2;
        static final int FORCE = 3;

        static final int TO_TONGUE = 0;
        static final int TO_AIM = 1;
        static final int TO_KIND = 2;
        static final int TO_PRIDE = 3;
        static final int TO_TONGUES = 4;
        static final int TO_WITHDRAWN = 5;

        int session;
        int delegates;
        final int[] kind = new int[MOST_DELEGATES];
        final int[] pride = new int[MOST_DELEGATES];
        final int[] tongues = new int[MOST_DELEGATES];
        final int[] hurt = new int[MOST_DELEGATES];
        final int[] wept = new int[MOST_DELEGATES];
        int speeches;
        final int[] by = new int[MOST_SPEECHES];
        final int[] tongue = new int[MOST_SPEECHES];
        final int[] at = new int[MOST_SPEECHES];
        final int[] force = new int[MOST_SPEECHES];

        boolean hasDelegate(int d) {
            return d >= 0 && d < delegates;
        }

        boolean hasSpeech(int s) {
            return s >= 0 && s < speeches;
        }

        /** The caller has seen to it that there is room. */
        int addDelegate(int itsKind) {
            int d = delegates;
            kind[d] = itsKind;
            pride[d] = FIRST_PRIDE;
            tongues[d] = 1;
            hurt[d] = 0;
            wept[d] = 0;
            delegates++;
            return d;
        }

        /** The caller has seen to it that there is room. */
        int addSpeech(int whose, int itsTongue, int whom, int itsForce) {
            int s = speeches;
            by[s] = whose;
            tongue[s] = itsTongue;
            at[s] = whom;
            force[s] = itsForce;
            speeches++;
            return s;
        }

        /** The most that may be set of a delegate; -1, which lets nothing through, of what can't be set. */
        static int mostOf(int what) {
            switch (what) {
                case 1:
                    return MOST_PRIDE;
                case 2:
                    return TONGUE_SETS - 1;
                case 3:
                    return MOST_HURT;
                case 4:
                    return MOST_WEPT;
                default:
                    return -1;
            }
        }

        int[] delegateRow(int what) {
            switch (what) {
                case 0:
                    return kind;
                case 1:
                    return pride;
                case 2:
                    return tongues;
                case 3:
                    return hurt;
                default:
                    return wept;
            }
        }

        /** Whether v may be what a speech has as its BY, TONGUE, AIMED or FORCE. */
        boolean mayTell(int what, int v) {
            switch (what) {
                case BY:
                    return hasDelegate(v);
                case TONGUE:
                    return v >= 0 && v < TONGUES;
                case AIMED:
                    return v == NOBODY || hasDelegate(v);
                case FORCE:
                    return v >= 0 && v <= MOST_FORCE;
                default:
                    return false;
            }
        }

        int[] speechRow(int what) {
            switch (what) {
                case BY:
                    return by;
                case TONGUE:
                    return tongue;
                case AIMED:
                    return at;
                default:
                    return force;
            }
        }

        static boolean isUnder(int itsKind, int above) {
            return above == itsKind || above == DELEGATE
                    || (itsKind == LORD && above == PEER)
                    || (itsKind == SCRIBE && above == CLERK);
        }

        /** What one LOSES by a speech that has a force f. */
        int lossOf(int d, int s, int f) {
            if (by[s] == d || at[s] == NOBODY) {
                return 0;
            }
            int asDelegate = at[s] == d ? f : f / 5;
            int asPeer = tongue[s] == FRENCH ? asDelegate : 0;
            int asClerk = asDelegate / 2;
            switch (kind[d]) {
                case PEER:
                    return asPeer;
                case CLERK:
                    return asClerk;
                case EXILE:
                    return f > 0 ? asDelegate + pride[d] : asDelegate;
                case LORD:
                    return Math.max(asPeer - pride[d] / 2, 0);
                case SCRIBE:
                    return f >= 10 ? asClerk + 1 : asClerk;
                default:
                    return asDelegate;
            }
        }

        int interpreterOf(int s) {
            int interpreter = NOBODY;
            int most = 0;
            for (int d = 0; d < delegates; d++) {
                boolean mayInterpret = d != by[s] && ((tongues[d] >> tongue[s]) & 1) == 1;
                int loss = mayInterpret ? lossOf(d, s, force[s]) : 0;
                if (loss > most) {
                    most = loss;
                    interpreter = d;
                }
            }
            return interpreter;
        }

        /** What a force f becomes as one RENDERS it. */
        int renderedBy(int d, int f) {
            int asDelegate = Math.max(f - pride[d], 0);
            int asPeer = f / 2;
            switch (kind[d]) {
                case PEER:
                    return asPeer;
                case CLERK:
                    return f;
                case EXILE:
                    return Math.min(2 * asDelegate, MOST_FORCE);
                case LORD:
                    return asPeer + pride[d] / 4;
                case SCRIBE:
                    return Math.max(f - 1, 0);
                default:
                    return asDelegate;
            }
        }

        /** 0 with no interpreter: then it is gestured and hurts nobody. */
        int comesOverWith(int s) {
            int interpreter = interpreterOf(s);
            return interpreter == NOBODY ? 0 : renderedBy(interpreter, force[s]);
        }

        boolean wouldWeep(int d) {
            switch (kind[d]) {
                case PEER:
                    return hurt[d] >= 400;
                case CLERK:
                    return false;
                case EXILE:
                    return hurt[d] >= 40;
                case LORD:
                    return hurt[d] >= 400 && pride[d] <= 10;
                case SCRIBE:
                    return session % 7 == 6;
                default:
                    return hurt[d] >= 100;
            }
        }

        /** Whom a speech hurts as it comes over, as a set. */
        int hurtBy(int s) {
            int f = comesOverWith(s);
            int set = 0;
            for (int d = 0; d < delegates; d++) {
                if (lossOf(d, s, f) > 0) {
                    set |= 1 << d;
                }
            }
            return set;
        }

        int nextSpeech() {
            return speeches > 0 ? session % speeches : -1;
        }

        void goOn(int n) {
            for (int i = 0; i < n; i++) {
                goOne();
            }
        }

        /** One session goes: who wept in it, or NOBODY. */
        int goOne() {
            int s = nextSpeech();
            int interpreter = s >= 0 ? interpreterOf(s) : NOBODY;
            int weeper = NOBODY;
            if (interpreter != NOBODY) {
                hurtEach(s, renderedBy(interpreter, force[s]));
                if (wouldWeep(interpreter)) {
                    weepOver(interpreter, s);
                    weeper = interpreter;
                }
            }
            session++;
            return weeper;
        }

        void hurtEach(int s, int f) {
            for (int d = 0; d < delegates; d++) {
                hurt[d] = Math.min(hurt[d] + lossOf(d, s, f), MOST_HURT);
            }
        }

        void weepOver(int d, int s) {
            wept[d] = Math.min(wept[d] + 1, MOST_WEPT);
            hurt[d] /= 2;
            force[s] /= 2;
        }

        /** Speeches without an interpreter, as a set. */
        int gestured() {
            int set = 0;
            for (int s = 0; s < speeches; s++) {
                if (interpreterOf(s) == NOBODY) {
                    set |= 1 << s;
                }
            }
            return set;
        }

        int hurtOfAll() {
            return sumOf(hurt, delegates);
        }

        int weptOfAll() {
            return sumOf(wept, delegates);
        }

        int forceOfAll() {
            return sumOf(force, speeches);
        }

        static int sumOf(int[] row, int n) {
            int sum = 0;
            for (int i = 0; i < n; i++) {
                sum += row[i];
            }
            return sum;
        }

        int mostHurt() {
            int most = 0;
            for (int d = 1; d < delegates; d++) {
                if (hurt[d] > hurt[most]) {
                    most = d;
                }
            }
            return most;
        }

        /** What the questions of what is best try: which is a delegate or a speech, v the value tried. */
        void alter(int change, int which, int v) {
            switch (change) {
                case TO_TONGUE:
                    tongue[which] = v;
                    break;
                case TO_AIM:
                    at[which] = v - 1;
                    break;
                case TO_KIND:
                    kind[which] = v;
                    break;
                case TO_PRIDE:
                    pride[which] = v;
                    break;
                case TO_TONGUES:
                    tongues[which] = v;
                    break;
                default:
                    force[v] = 0;
                    break;
            }
        }

        void takeFrom(Congress other) {
            session = other.session;
            delegates = other.delegates;
            System.arraycopy(other.kind, 0, kind, 0, MOST_DELEGATES);
            System.arraycopy(other.pride, 0, pride, 0, MOST_DELEGATES);
            System.arraycopy(other.tongues, 0, tongues, 0, MOST_DELEGATES);
            System.arraycopy(other.hurt, 0, hurt, 0, MOST_DELEGATES);
            System.arraycopy(other.wept, 0, wept, 0, MOST_DELEGATES);
            speeches = other.speeches;
            System.arraycopy(other.by, 0, by, 0, MOST_SPEECHES);
            System.arraycopy(other.tongue, 0, tongue, 0, MOST_SPEECHES);
            System.arraycopy(other.at, 0, at, 0, MOST_SPEECHES);
            System.arraycopy(other.force, 0, force, 0, MOST_SPEECHES);
        }
    }

    /** THE TAPE, and the reading of it as THE TEXT of a congress. */
    private static final class Tape {
        static final int MOST_BYTES = 120;

        static final int END = 0;
        static final int WORD = 1;
        static final int NUMBER = 2;
        static final int SIGN = 3;
        static final int WRONG = 4;

        /** Above every number that may stand in a text, and so small that no run of digits overflows. */
        static final int TOO_MUCH = 1000;

        final int[] bytes = new int[MOST_BYTES];
        int size;

        /** The token that is looked at: what it is, where it begins, where it ends, its value. */
        int token;
        int start;
        int stop;
        int number;

        /** The caller has seen to it that there is room. */
        void add(int word, int n) {
            for (int i = n - 1; i >= 0; i--) {
                bytes[size] = (word >> (8 * i)) & 255;
                size++;
            }
        }

        int clear() {
            int was = size;
            size = 0;
            return was;
        }

        /** The items come to a congress: how many, or, with a FAULT, -1 less its place. */
        int tellTo(Congress congress) {
            stop = 0;
            advance();
            for (int items = 1; items <= MOST_BYTES; items++) {
                if (!isItemTaken(congress)) {
                    break;
                }
                if (token == END) {
                    return items;
                }
                if (token != SIGN) {
                    break;
                }
                advance();
            }
            return -1 - start;
        }

        /** Where this or one below answers no, the token looked at is the one that can't stand there. */
        boolean isItemTaken(Congress congress) {
            if (isWord("speech")) {
                return congress.speeches < Congress.MOST_SPEECHES && isSpeechTaken(congress);
            }
            int kind = kindNamed();
            return kind >= 0 && congress.delegates < Congress.MOST_DELEGATES && isDelegateTaken(congress, kind);
        }

        boolean isDelegateTaken(Congress congress, int kind) {
            int d = congress.addDelegate(kind);
            advance();
            if (isWord("pride")) {
                advance();
                if (!isNumberBelow(Congress.MOST_PRIDE + 1)) {
                    return false;
                }
                congress.pride[d] = number;
                advance();
            }
            if (isWord("has")) {
                advance();
                return areTonguesTaken(congress, d);
            }
            return true;
        }

        boolean areTonguesTaken(Congress congress, int d) {
            int set = 0;
            for (int i = 0; i < Congress.TONGUES; i++) {
                if (i > 0 && token != NUMBER) {
                    break;
                }
                if (!isNumberBelow(Congress.TONGUES)) {
                    return false;
                }
                set |= 1 << number;
                advance();
            }
            congress.tongues[d] = set;
            return true;
        }

        boolean isSpeechTaken(Congress congress) {
            advance();
            if (!isNumberBelow(congress.delegates)) {
                return false;
            }
            int by = number;
            advance();
            if (!isNumberBelow(Congress.TONGUES)) {
                return false;
            }
            int tongue = number;
            advance();
            if (!isNumberBelow(Congress.MOST_FORCE + 1)) {
                return false;
            }
            int s = congress.addSpeech(by, tongue, NOBODY, number);
            advance();
            return !isWord("at") || isAimTaken(congress, s);
        }

        boolean isAimTaken(Congress congress, int s) {
            advance();
            if (!isNumberBelow(congress.delegates)) {
                return false;
            }
            congress.at[s] = number;
            advance();
            return true;
        }

        /** The kind whose name is looked at, or -1. */
        int kindNamed() {
            if (isWord("delegate")) {
                return Congress.DELEGATE;
            }
            if (isWord("peer")) {
                return Congress.PEER;
            }
            if (isWord("clerk")) {
                return Congress.CLERK;
            }
            if (isWord("exile")) {
                return Congress.EXILE;
            }
            if (isWord("lord")) {
                return Congress.LORD;
            }
            return isWord("scribe") ? Congress.SCRIBE : -1;
        }

        boolean isNumberBelow(int bound) {
            return token == NUMBER && number < bound;
        }

        boolean isWord(String word) {
            if (token != WORD || stop - start != word.length()) {
                return false;
            }
            for (int i = 0; i < word.length(); i++) {
                if (bytes[start + i] != word.charAt(i)) {
                    return false;
                }
            }
            return true;
        }

        /** The next token is looked at. */
        void advance() {
            start = stop;
            while (start < size && bytes[start] == ' ') {
                start++;
            }
            stop = start;
            if (start >= size) {
                token = END;
            } else if (isAmong(start, 'a', 'z')) {
                token = WORD;
                skipAll('a', 'z');
            } else if (isAmong(start, '0', '9')) {
                token = NUMBER;
                skipAll('0', '9');
                number = valueOfDigits();
            } else {
                token = bytes[start] == ';' ? SIGN : WRONG;
                stop = start + 1;
            }
        }

        boolean isAmong(int place, int least, int most) {
            return place < size && bytes[place] >= least && bytes[place] <= most;
        }

        void skipAll(int least, int most) {
            while (stop < size && isAmong(stop, least, most)) {
                stop++;
            }
        }

        int valueOfDigits() {
            int value = 0;
            for (int i = start; i < stop; i++) {
                value = Math.min(value * 10 + bytes[i] - '0', TOO_MUCH);
            }
            return value;
        }
    }

    /** Rows of numbers with a sign, all in one array: those of sheet s stand from MOST_NUMBERS * s on. */
    private static final class Sheets {
        static final int SHEETS = 4;
        static final int MOST_NUMBERS = 40;

        /** 0: it is MISSING. */
        final int[] bits = new int[SHEETS];
        final int[] sizes = new int[SHEETS];
        final long[] numbers = new long[SHEETS * MOST_NUMBERS];

        static boolean isOne(int s) {
            return s >= 0 && s < SHEETS;
        }

        static boolean mayHave(int itsBits) {
            return itsBits == 0 || itsBits == 8 || itsBits == 16 || itsBits == 64;
        }

        boolean isMissing(int s) {
            return bits[s] == 0;
        }

        int lay(int s, int itsBits, int n) {
            bits[s] = itsBits;
            sizes[s] = itsBits == 0 ? 0 : n;
            for (int i = 0; i < MOST_NUMBERS; i++) {
                numbers[MOST_NUMBERS * s + i] = 0;
            }
            return sizes[s];
        }

        long numberAt(int s, int i) {
            return numbers[MOST_NUMBERS * s + i];
        }

        void put(int s, int i, long v) {
            numbers[MOST_NUMBERS * s + i] = lowest(bits[s], v);
        }

        static long lowest(int itsBits, long v) {
            if (itsBits == 8) {
                return (byte) v;
            }
            return itsBits == 16 ? (short) v : v;
        }

        /** A difference of two that are not below 0 can't overflow, as a sum could. */
        boolean hasPart(int s, int from, int n) {
            return from >= 0 && n >= 0 && n <= sizes[s] - from;
        }

        void move(int s, int from, int t, int to, int n) {
            System.arraycopy(numbers, MOST_NUMBERS * s + from, numbers, MOST_NUMBERS * t + to, n);
        }
    }
}
