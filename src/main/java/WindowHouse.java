import java.util.Arrays;
import java.util.NoSuchElementException;

/**
 * A house where programs of windows and buttons are tried: by hand, or gone through whole.
 * What each call promises stands in DOC.md; words in capitals are that document's.
 */
public final class WindowHouse {
    /** There is none; refused. */
    public static final int NONE = -1;

    /** Nothing in THE MAP is such, or an ACT isn't possible: an answer, not a refusal. */
    private static final int ABSENT = -2;

    private static final int APPS = 2;
    private static final int MOST_WINDOWS = 8;
    private static final int MOST_BUTTONS = 24;
    private static final int MOST_VARS = 6;
    private static final int MOST_SHOWS = 6;
    private static final int MOST_CONDS = 3;
    private static final int MOST_DEEDS = 4;
    private static final int MOST_TAPE = 800;
    private static final int MOST_OPEN = 5;
    private static final int MOST_STATES = 400;
    private static final int MOST_ROW = 400;
    private static final int MOST_LETTERS = 8;
    private static final int MOST_DIGITS = 2;
    private static final int MOST_FAULT = 20;
    private static final int FED = 20;

    private static final int WAIT = 24;
    private static final int BACK = 25;
    private static final int TORN = 26;
    private static final int ACTS = 27;
    /** What is added to an ACT that only APP 1 can do, so that it is told from APP 0's. */
    private static final int OF_SECOND = 100;

    private static final int NO_TROUBLE = 0;
    private static final int NO_SUCH = 1;
    private static final int WRONG_NUMBER = 2;
    private static final int FAULTY_TEXT = 3;
    private static final int NOT_POSSIBLE = 4;
    private static final int TOO_MANY = 5;
    private static final int NO_MAP = 6;

    private final int[] tape = new int[MOST_TAPE];
    private int tapeLength = 0;

    private final App[] apps = {new App(), new App()};
    /** Texts are read into this one, so that a FAULT leaves the former APP whole. */
    private App spare = new App();
    private final Reader reader = new Reader(spare);
    private final long[] hand = new long[APPS];

    private final Atlas atlas = new Atlas(spare);
    private final Beside beside = new Beside(spare, spare);

    private final int[] acts = new int[MOST_ROW];
    private int actsMany = 0;
    /** The STATES on the way along THE ROW while it is made shorter. */
    private final long[] trail = new long[MOST_ROW + 1];
    private int triedMany = NONE;
    private int latestTrouble = NO_TROUBLE;

    public WindowHouse() {
    }

    // ---- texts

    public int feed(int a, int b, int c, int d, int e) {
        if (tapeLength + FED > MOST_TAPE) {
            return NONE;
        }
        wind(a);
        wind(b);
        wind(c);
        wind(d);
        wind(e);
        return tapeLength;
    }

    public int app(int a, int n) {
        if (a < 0 || a >= APPS) {
            return refused(NO_SUCH);
        }
        if (n < 0 || n > tapeLength) {
            return refused(WRONG_NUMBER);
        }
        tapeLength = 0;
        if (!reader.reads(tape, n, spare)) {
            return refused(FAULTY_TEXT);
        }
        App former = apps[a];
        apps[a] = spare;
        spare = former;
        hand[a] = apps[a].beginning();
        if (atlas.whose == a) {
            atlas.drop();
        }
        return granted(apps[a].windows);
    }

    public int fault() {
        return reader.fault;
    }

    public int where() {
        return latestTrouble == FAULTY_TEXT ? reader.faultPlace : NONE;
    }

    public int about(int a, int what) {
        if (!has(a)) {
            return NONE;
        }
        App app = apps[a];
        switch (what) {
            case 0:
                return app.windows;
            case 1:
                return app.buttons;
            case 2:
                return app.vars;
            case 3:
                return app.keptMany;
            case 4:
                return app.shows;
            case 5:
                return app.timers;
            default:
                return NONE;
        }
    }

    public int button(int a, int b, int what) {
        if (!has(a) || b < 0 || b >= apps[a].buttons) {
            return NONE;
        }
        App app = apps[a];
        switch (what) {
            case 0:
                return app.home[b];
            case 1:
                return app.conds.many[b];
            case 2:
                return app.deeds.many[b];
            default:
                return NONE;
        }
    }

    // ---- by hand

    public int act(int a, int act) {
        if (!has(a)) {
            return refused(NO_SUCH);
        }
        if (act < 0 || act >= ACTS) {
            return refused(WRONG_NUMBER);
        }
        if (!apps[a].possible(hand[a], act)) {
            return refused(NOT_POSSIBLE);
        }
        hand[a] = apps[a].after(hand[a], act);
        return granted(1);
    }

    public int state(int a, int what) {
        if (!has(a)) {
            return NONE;
        }
        long now = hand[a];
        switch (what) {
            case 0:
                return Bits.faultOf(now);
            case 1:
                return Bits.openOf(now);
            case 2:
                return Bits.topOf(now);
            case 3:
                return Bits.ticksOf(now);
            case 4:
                return apps[a].possibleMany(now);
            default:
                return NONE;
        }
    }

    public int var(int a, int v) {
        if (!has(a) || v < 0 || v >= apps[a].vars) {
            return NONE;
        }
        return Bits.valueOf(hand[a], v);
    }

    public int can(int a, int act) {
        if (!has(a) || act < 0 || act >= ACTS) {
            return NONE;
        }
        return apps[a].possible(hand[a], act) ? 1 : 0;
    }

    public boolean begin(int a) {
        if (!has(a)) {
            latestTrouble = NO_SUCH;
            return false;
        }
        hand[a] = apps[a].beginning();
        latestTrouble = NO_TROUBLE;
        return true;
    }

    // ---- the map

    public int map(int a) {
        if (!has(a)) {
            return refused(NO_SUCH);
        }
        if (!atlas.made(apps[a], a)) {
            return refused(TOO_MANY);
        }
        return granted(atlas.many());
    }

    public int met(int s, int what) {
        if (s < 0 || s >= atlas.many()) {
            return NONE;
        }
        long there = atlas.states.left[s];
        switch (what) {
            case 0:
                return Bits.faultOf(there);
            case 1:
                return Bits.openOf(there);
            case 2:
                return Bits.topOf(there);
            case 3:
                return atlas.states.deep[s];
            case 4:
                return atlas.waysFrom(s);
            case 5:
                return atlas.kindOf(s);
            default:
                return NONE;
        }
    }

    public int leads(int s, int act) {
        if (s < 0 || s >= atlas.many() || act < 0 || act >= ACTS) {
            return NONE;
        }
        return atlas.to[s * ACTS + act];
    }

    public int rowTo(int s) {
        if (!atlas.stands()) {
            return refused(NO_MAP);
        }
        if (s < 0 || s >= atlas.many()) {
            return refused(NO_SUCH);
        }
        actsMany = atlas.states.traced(s, acts);
        return granted(actsMany);
    }

    public int faultAt(int number) {
        if (!atlas.stands()) {
            return refused(NO_MAP);
        }
        if (number < 1 || number > MOST_FAULT) {
            return refused(WRONG_NUMBER);
        }
        return granted(atlas.firstOfFault(number));
    }

    public int pressedAt(int b) {
        if (!atlas.stands()) {
            return refused(NO_MAP);
        }
        if (b < 0 || b >= atlas.app.buttons) {
            return refused(NO_SUCH);
        }
        return granted(atlas.firstOfPressed(b));
    }

    public int never() {
        return atlas.stands() ? granted(atlas.neverMany()) : refused(NO_MAP);
    }

    public int holdsAt(int v, int value) {
        if (!atlas.stands()) {
            return refused(NO_MAP);
        }
        if (v < 0 || v >= atlas.app.vars) {
            return refused(NO_SUCH);
        }
        return granted(atlas.firstOfValue(v, value));
    }

    public int stuck(int w) {
        if (!atlas.stands()) {
            return refused(NO_MAP);
        }
        if (w < 0 || w >= atlas.app.windows) {
            return refused(NO_SUCH);
        }
        return granted(atlas.firstWithoutWayTo(w));
    }

    public int least() {
        return atlas.stands() ? granted(atlas.kindsMany()) : refused(NO_MAP);
    }

    public int views() {
        return atlas.stands() ? granted(atlas.viewsMany()) : refused(NO_MAP);
    }

    public int farthest() {
        return atlas.stands() ? granted(atlas.deepest()) : refused(NO_MAP);
    }

    public int ways() {
        return atlas.stands() ? granted(atlas.waysMany()) : refused(NO_MAP);
    }

    // ---- the row

    public int push(int act) {
        if (act < 0 || act >= ACTS) {
            return refused(WRONG_NUMBER);
        }
        if (actsMany >= MOST_ROW) {
            return refused(NOT_POSSIBLE);
        }
        acts[actsMany] = act;
        actsMany++;
        return granted(actsMany);
    }

    public boolean cut(int n) {
        if (n < 0 || n > actsMany) {
            latestTrouble = WRONG_NUMBER;
            return false;
        }
        actsMany = n;
        latestTrouble = NO_TROUBLE;
        return true;
    }

    public int tryRow(int a) {
        if (!has(a)) {
            return refused(NO_SUCH);
        }
        triedMany = actsToFault(apps[a]);
        return granted(Bits.faultOf(trail[triedMany]));
    }

    public int tried() {
        return triedMany;
    }

    public int shorter(int a) {
        if (!has(a)) {
            return refused(NO_SUCH);
        }
        App app = apps[a];
        int needed = actsToFault(app);
        int number = Bits.faultOf(trail[needed]);
        if (number == 0) {
            return refused(NOT_POSSIBLE);
        }
        actsMany = needed;
        boolean again = true;
        // each round but the last leaves out an ACT, so there are no more rounds than ACTS, and one
        for (int round = 0; again && round <= MOST_ROW; round++) {
            again = false;
            for (int k = actsMany - 1; k >= 0; k--) {
                if (comesWithout(app, k, number)) {
                    leaveOut(app, k);
                    again = true;
                }
            }
        }
        return granted(actsMany);
    }

    public int row(int k) throws NoSuchElementException {
        if (k < 0 || k >= actsMany) {
            throw new NoSuchElementException();
        }
        return acts[k];
    }

    // ---- two versions

    public int apart() {
        if (!has(0) || !has(1)) {
            return refused(NO_SUCH);
        }
        beside.goThrough(apps[0], apps[1]);
        if (beside.tooMany) {
            return refused(TOO_MANY);
        }
        if (beside.unlikeAt == NONE) {
            return granted(ABSENT);
        }
        actsMany = beside.rowInto(acts);
        return granted(actsMany);
    }

    public int count(int what) {
        switch (what) {
            case 0:
                return atlas.many();
            case 1:
                return atlas.whose;
            case 2:
                return actsMany;
            case 3:
                return tapeLength;
            case 4:
                return beside.pairs.many;
            default:
                return NONE;
        }
    }

    public int trouble() {
        return latestTrouble;
    }

    // ---- what the calls share

    private boolean has(int a) {
        return a >= 0 && a < APPS && apps[a].windows > 0;
    }

    private int refused(int why) {
        latestTrouble = why;
        return NONE;
    }

    private int granted(int answer) {
        latestTrouble = NO_TROUBLE;
        return answer;
    }

    private void wind(int four) {
        for (int shift = 24; shift >= 0 && tapeLength < MOST_TAPE; shift -= 8) {
            tape[tapeLength] = (four >>> shift) & 255;
            tapeLength++;
        }
    }

    /** Tries THE ROW, leaving its STATES in the trail: how many ACTS it takes up to a FAULT, or all. */
    private int actsToFault(App app) {
        trail[0] = app.beginning();
        for (int k = 0; k < actsMany; k++) {
            trail[k + 1] = app.tryAct(trail[k], acts[k]);
            if (Bits.faultOf(trail[k + 1]) > 0) {
                return k + 1;
            }
        }
        return actsMany;
    }

    /** Whether THE ROW without its ACT k comes to the FAULT to which it comes with it. */
    private boolean comesWithout(App app, int k, int number) {
        long now = trail[k];
        for (int next = k + 1; next < actsMany; next++) {
            // back on the trail: all that follows is as it was, and that came to the FAULT
            if (now == trail[next]) {
                return true;
            }
            now = app.tryAct(now, acts[next]);
            if (Bits.faultOf(now) > 0) {
                break;
            }
        }
        return Bits.faultOf(now) == number;
    }

    private void leaveOut(App app, int k) {
        for (int next = k; next < actsMany - 1; next++) {
            acts[next] = acts[next + 1];
            trail[next + 1] = app.tryAct(trail[next], acts[next]);
        }
        actsMany--;
    }

    /**
     * A STATE in one long, so that STATES are kept, compared and looked up without making objects.
     * Bits 0 .. 23: six VARS of four. 24 .. 26: how many WINDOWS are open. 27 .. 61: of each open
     * WINDOW, the topmost lowest, four of TICKS and three of its number; the FAULT, if none is open.
     */
    private static final class Bits {
        private static final int OPEN_AT = 24;
        private static final int STACK_AT = 27;
        private static final int TICK_BITS = 4;
        private static final int ONE_BITS = 7;
        private static final long ALL_VARS = 0xFFFFFFL;

        private static long packed(long stack, int open, long vars) {
            return stack << STACK_AT | (long) open << OPEN_AT | vars & ALL_VARS;
        }

        private static long alone(int window, long vars) {
            return packed((long) window << TICK_BITS, 1, vars);
        }

        private static long faulted(int number, long vars) {
            return packed(number, 0, vars);
        }

        private static int openOf(long s) {
            return (int) (s >>> OPEN_AT) & 7;
        }

        private static int faultOf(long s) {
            return openOf(s) > 0 ? 0 : (int) (s >>> STACK_AT);
        }

        private static int topOf(long s) {
            return openOf(s) > 0 ? (int) (s >>> STACK_AT + TICK_BITS) & 7 : NONE;
        }

        private static int ticksOf(long s) {
            return openOf(s) > 0 ? (int) (s >>> STACK_AT) & 15 : NONE;
        }

        private static int valueOf(long s, int v) {
            return (int) (s >>> 4 * v) & 15;
        }

        private static long withValue(long s, int v, int value) {
            return s & ~(15L << 4 * v) | (long) value << 4 * v;
        }

        private static long withTicks(long s, int ticks) {
            return s & ~(15L << STACK_AT) | (long) ticks << STACK_AT;
        }

        private static long opened(long s, int window) {
            int open = openOf(s);
            if (open >= MOST_OPEN) {
                return s;
            }
            return packed(s >>> STACK_AT << ONE_BITS | (long) window << TICK_BITS, open + 1, s);
        }

        private static long closed(long s) {
            int open = openOf(s);
            return open < 2 ? s : packed(s >>> STACK_AT + ONE_BITS, open - 1, s);
        }
    }

    /** The CONDS of the BUTTONS: each a VAR and the least and the most that it may be. */
    private static final class Conds {
        private static final int ROOM = MOST_BUTTONS * MOST_CONDS;
        private static final int ANY = 15;

        private final int[] many = new int[MOST_BUTTONS];
        private final int[] of = new int[ROOM];
        private final int[] least = new int[ROOM];
        private final int[] most = new int[ROOM];

        private void add(int b, int v, int sign, int number) {
            int at = b * MOST_CONDS + many[b];
            of[at] = v;
            least[at] = sign == '=' ? number : sign == '<' ? 0 : number + 1;
            most[at] = sign == '=' ? number : sign == '<' ? number - 1 : ANY;
            many[b]++;
        }

        private boolean hold(int b, long s) {
            int first = b * MOST_CONDS;
            for (int at = first; at < first + many[b]; at++) {
                int value = Bits.valueOf(s, of[at]);
                if (value < least[at] || value > most[at]) {
                    return false;
                }
            }
            return true;
        }
    }

    /** The lists of DEEDS: of each BUTTON by its number, then of the TIMER of each WINDOW. */
    private static final class Deeds {
        private static final int LISTS = MOST_BUTTONS + MOST_WINDOWS;
        private static final int ROOM = LISTS * MOST_DEEDS;
        private static final int OPEN = 0;
        private static final int CLOSE = 1;
        private static final int SET = 2;
        private static final int ADD = 3;
        private static final int FAULT = 4;

        private final int[] many = new int[LISTS];
        private final int[] kind = new int[ROOM];
        /** The WINDOW that is opened, the VAR that is set or added to. */
        private final int[] on = new int[ROOM];
        private final int[] number = new int[ROOM];

        private static int ofTimer(int window) {
            return MOST_BUTTONS + window;
        }

        /** Where the DEED is kept. */
        private int add(int list, int deed, int what, int by) {
            int at = list * MOST_DEEDS + many[list];
            kind[at] = deed;
            on[at] = what;
            number[at] = by;
            many[list]++;
            return at;
        }
    }

    /** An APP as it was told, and what its STATES lead to; one without WINDOWS was never told. */
    private static final class App {
        private int windows = 0;
        private int buttons = 0;
        private int vars = 0;
        private int keptMany = 0;
        private int shows = 0;
        private int timers = 0;
        /** The bits that the VARS that are kept have in a STATE. */
        private long keptBits = 0;
        /** Names are WORDS of one byte a letter, in one long. */
        private final long[] varNames = new long[MOST_VARS];
        private final long[] windowNames = new long[MOST_WINDOWS];
        private final long[] buttonNames = new long[MOST_BUTTONS];
        private final int[] greatest = new int[MOST_VARS];
        private final int[] showMany = new int[MOST_WINDOWS];
        private final int[] shown = new int[MOST_WINDOWS * MOST_SHOWS];
        /** When the TIMER of a WINDOW goes off; 0 without one. */
        private final int[] timer = new int[MOST_WINDOWS];
        private final int[] firstButton = new int[MOST_WINDOWS];
        private final int[] endButton = new int[MOST_WINDOWS];
        private final int[] home = new int[MOST_BUTTONS];
        private final Conds conds = new Conds();
        private final Deeds deeds = new Deeds();

        private void clear() {
            windows = 0;
            buttons = 0;
            vars = 0;
            keptMany = 0;
            shows = 0;
            timers = 0;
            keptBits = 0;
        }

        private void addVar(long name, int most, boolean kept) {
            varNames[vars] = name;
            greatest[vars] = most;
            if (kept) {
                keptMany++;
                keptBits = Bits.withValue(keptBits, vars, 15);
            }
            vars++;
        }

        private void addWindow(long name) {
            windowNames[windows] = name;
            showMany[windows] = 0;
            timer[windows] = 0;
            deeds.many[Deeds.ofTimer(windows)] = 0;
            firstButton[windows] = buttons;
            endButton[windows] = buttons;
            windows++;
        }

        private void addShow(int w, int v) {
            shown[w * MOST_SHOWS + showMany[w]] = v;
            showMany[w]++;
            shows++;
        }

        private void addButton(int w, long name) {
            buttonNames[buttons] = name;
            home[buttons] = w;
            conds.many[buttons] = 0;
            deeds.many[buttons] = 0;
            buttons++;
            endButton[w] = buttons;
        }

        private void addTimer(int w, int ticks) {
            timer[w] = ticks;
            timers++;
        }

        private int varNamed(long name) {
            return placeOf(name, varNames, 0, vars);
        }

        private int windowNamed(long name) {
            return placeOf(name, windowNames, 0, windows);
        }

        private int buttonNamed(int w, long name) {
            return placeOf(name, buttonNames, firstButton[w], endButton[w]);
        }

        private static int placeOf(long name, long[] names, int first, int end) {
            for (int k = first; k < end; k++) {
                if (names[k] == name) {
                    return k;
                }
            }
            return NONE;
        }

        private long beginning() {
            return Bits.alone(0, 0);
        }

        private boolean possible(long s, int act) {
            if (act == TORN) {
                return true;
            }
            int top = Bits.topOf(s);
            if (top == NONE) {
                return false;
            }
            if (act == WAIT) {
                return true;
            }
            if (act == BACK) {
                return Bits.openOf(s) > 1;
            }
            return act >= firstButton[top] && act < endButton[top] && conds.hold(act, s);
        }

        private int possibleMany(long s) {
            int many = 0;
            for (int act = 0; act < ACTS; act++) {
                if (possible(s, act)) {
                    many++;
                }
            }
            return many;
        }

        /** Where an ACT leads that is possible. */
        private long after(long s, int act) {
            if (act == TORN) {
                return Bits.alone(0, s & keptBits);
            }
            if (act == BACK) {
                return Bits.closed(s);
            }
            if (act != WAIT) {
                return afterDeeds(s, act);
            }
            int top = Bits.topOf(s);
            if (top == NONE || timer[top] == 0) {
                return s;
            }
            int ticks = Bits.ticksOf(s) + 1;
            if (ticks < timer[top]) {
                return Bits.withTicks(s, ticks);
            }
            return afterDeeds(Bits.withTicks(s, 0), Deeds.ofTimer(top));
        }

        /** Where an ACT of a row leads: one that isn't possible is left out, and a FAULT is the row's end. */
        private long tryAct(long s, int act) {
            return Bits.faultOf(s) > 0 || !possible(s, act) ? s : after(s, act);
        }

        private long afterDeeds(long s, int list) {
            if (list < 0 || list >= Deeds.LISTS) {
                return s;
            }
            long now = s;
            int first = list * MOST_DEEDS;
            for (int at = first; at < first + deeds.many[list]; at++) {
                int on = deeds.on[at];
                int number = deeds.number[at];
                switch (deeds.kind[at]) {
                    case Deeds.OPEN:
                        now = Bits.opened(now, on);
                        break;
                    case Deeds.CLOSE:
                        now = Bits.closed(now);
                        break;
                    case Deeds.SET:
                        now = Bits.withValue(now, on, number);
                        break;
                    case Deeds.ADD:
                        now = Bits.withValue(now, on, sumIn(on, Bits.valueOf(now, on) + number));
                        break;
                    default:
                        return Bits.faulted(number, now & keptBits);
                }
            }
            return now;
        }

        private int sumIn(int v, int sum) {
            int round = greatest[v] + 1;
            return round > 0 ? sum % round : 0;
        }

        /** The VIEW in one long: unlike for unlike VIEWS of this APP. */
        private long viewOf(long s) {
            int top = Bits.topOf(s);
            if (top == NONE) {
                return -Bits.faultOf(s);
            }
            long view = 0;
            for (int k = 0; k < showMany[top]; k++) {
                view = view << 4 | shownIn(s, top, k);
            }
            for (int b = firstButton[top]; b < endButton[top]; b++) {
                view = view << 1 | (conds.hold(b, s) ? 1 : 0);
            }
            return view << 3 | top;
        }

        private int shownIn(long s, int top, int k) {
            return Bits.valueOf(s, shown[top * MOST_SHOWS + k]);
        }
    }

    /** Goes over a text TOKEN by TOKEN. */
    private static final class Scanner {
        // kinds of TOKENS; a single sign is its own kind
        private static final int END = 0;
        private static final int WORD = 1;
        private static final int NUMBER = 2;
        private static final int NO_TOKEN = 3;

        private int[] text = new int[0];
        private int length = 0;
        /** The byte behind the TOKEN. */
        private int at = 0;
        private int kind = END;
        private int place = 0;
        private long word = 0;
        private int number = 0;

        private void start(int[] bytes, int n) {
            text = bytes;
            length = Math.min(n, bytes.length);
            at = 0;
        }

        private void goOn() {
            while (at < length && (text[at] == ' ' || text[at] == '\n')) {
                at++;
            }
            place = at;
            if (at >= length) {
                kind = END;
            } else if (isLetter(text[at])) {
                goOverWord();
            } else if (isDigit(text[at])) {
                goOverNumber();
            } else {
                kind = isSign(text[at]) ? text[at] : NO_TOKEN;
                at++;
            }
        }

        private void goOverWord() {
            word = 0;
            while (at < length && isLetter(text[at])) {
                word = word << 8 | text[at];
                at++;
            }
            kind = at - place > MOST_LETTERS ? NO_TOKEN : WORD;
        }

        private void goOverNumber() {
            number = 0;
            while (at < length && isDigit(text[at])) {
                number = number * 10 + text[at] - '0';
                at++;
            }
            kind = at - place > MOST_DIGITS ? NO_TOKEN : NUMBER;
        }

        private boolean says(String key) {
            if (kind != WORD || at - place != key.length()) {
                return false;
            }
            for (int k = 0; k < key.length(); k++) {
                if (text[place + k] != key.charAt(k)) {
                    return false;
                }
            }
            return true;
        }

        private static boolean isLetter(int sign) {
            return sign >= 'a' && sign <= 'z';
        }

        private static boolean isDigit(int sign) {
            return sign >= '0' && sign <= '9';
        }

        private static boolean isSign(int sign) {
            return sign == '{' || sign == '}' || sign == ';' || sign == ',' || isComparison(sign);
        }

        private static boolean isComparison(int sign) {
            return sign == '=' || sign == '<' || sign == '>';
        }
    }

    /**
     * Reads a text into an APP, from the left, up to the first FAULT. It knows what is awaited, and
     * each TOKEN is taken by that: so no call stands in another for each part within a part.
     */
    private static final class Reader {
        private static final int FORM = 1;
        private static final int UNKNOWN = 2;
        private static final int TWICE = 3;
        private static final int BEYOND = 4;
        private static final int MANY = 5;

        private static final int TOP = 0;
        private static final int VAR_NAME = 1;
        private static final int VAR_MOST = 2;
        private static final int VAR_END = 3;
        private static final int WINDOW_NAME = 4;
        private static final int WINDOW_START = 5;
        private static final int PART = 6;
        private static final int SHOW_NAME = 7;
        private static final int SHOW_END = 8;
        private static final int BUTTON_NAME = 9;
        private static final int BUTTON_IF = 10;
        private static final int COND_NAME = 11;
        private static final int COND_SIGN = 12;
        private static final int COND_NUMBER = 13;
        private static final int COND_END = 14;
        private static final int TIMER_TICKS = 15;
        private static final int TIMER_DO = 16;
        private static final int DEED = 17;
        private static final int DEED_WINDOW = 18;
        private static final int DEED_VAR = 19;
        private static final int DEED_NUMBER = 20;
        private static final int DEED_END = 21;

        private final Scanner token = new Scanner();
        private App app;
        private int awaited = TOP;
        private int fault = 0;
        private int faultPlace = 0;
        // what is known of a part that isn't whole yet
        private long name = 0;
        private boolean kept = false;
        private int v = 0;
        private int sign = 0;
        private int deed = 0;
        private int list = 0;
        // a WINDOW may be told behind the open that names it: the names wait here for the text's end
        private int opens = 0;
        private final int[] openDeed = new int[Deeds.ROOM];
        private final long[] openName = new long[Deeds.ROOM];
        private final int[] openPlace = new int[Deeds.ROOM];

        private Reader(App into) {
            app = into;
        }

        /** Whether the first n of the bytes are an APP; if not, fault and faultPlace tell why. */
        private boolean reads(int[] bytes, int n, App into) {
            app = into;
            app.clear();
            awaited = TOP;
            fault = 0;
            faultPlace = 0;
            v = 0;
            opens = 0;
            token.start(bytes, n);
            for (int k = 0; k <= MOST_TAPE; k++) {
                token.goOn();
                if (token.kind == Scanner.END) {
                    return awaited == TOP && app.windows > 0 ? findOpened() : faulty(FORM);
                }
                if (!taken()) {
                    return false;
                }
            }
            return false;
        }

        private boolean faulty(int why) {
            fault = why;
            faultPlace = token.place;
            return false;
        }

        private boolean awaits(int next) {
            awaited = next;
            return true;
        }

        private boolean taken() {
            switch (awaited) {
                case TOP:
                    return takeTop();
                case VAR_NAME:
                    return takeVarName();
                case VAR_MOST:
                    return takeVarMost();
                case VAR_END:
                    return takeSign(';', TOP);
                case WINDOW_NAME:
                    return takeWindowName();
                case WINDOW_START:
                    return takeSign('{', PART);
                case PART:
                    return takePart();
                case SHOW_NAME:
                    return takeShowName();
                case SHOW_END:
                    return takeSign(';', PART);
                case BUTTON_NAME:
                    return takeButtonName();
                case BUTTON_IF:
                    return token.says("if") ? awaits(COND_NAME) : takeDo();
                case COND_NAME:
                    return takeCondName();
                case COND_SIGN:
                    return takeCondSign();
                case COND_NUMBER:
                    return takeCondNumber();
                case COND_END:
                    return token.says("and") ? awaits(COND_NAME) : takeDo();
                case TIMER_TICKS:
                    return takeTimerTicks();
                case TIMER_DO:
                    return takeDo();
                case DEED:
                    return takeDeed();
                case DEED_WINDOW:
                    return takeDeedWindow();
                case DEED_VAR:
                    return takeDeedVar();
                case DEED_NUMBER:
                    return takeDeedNumber();
                default:
                    return token.kind == ',' ? awaits(DEED) : takeSign(';', PART);
            }
        }

        private boolean takeSign(int which, int next) {
            return token.kind == which ? awaits(next) : faulty(FORM);
        }

        private boolean takeDo() {
            return token.says("do") ? awaits(DEED) : faulty(FORM);
        }

        private boolean isNumber(int from, int upTo) {
            if (token.kind != Scanner.NUMBER) {
                return faulty(FORM);
            }
            return token.number >= from && token.number <= upTo || faulty(BEYOND);
        }

        /** Whether a WORD stands here that has no place among the names so far. */
        private boolean isNewName(int placeSoFar) {
            if (token.kind != Scanner.WORD) {
                return faulty(FORM);
            }
            return placeSoFar == NONE || faulty(TWICE);
        }

        /** Whether the name of a VAR stands here, which is kept as v. */
        private boolean isVar() {
            if (token.kind != Scanner.WORD) {
                return faulty(FORM);
            }
            v = app.varNamed(token.word);
            return v != NONE || faulty(UNKNOWN);
        }

        private boolean takeTop() {
            if (token.says("window")) {
                return app.windows < MOST_WINDOWS ? awaits(WINDOW_NAME) : faulty(MANY);
            }
            kept = token.says("kept");
            if (app.windows > 0 || !kept && !token.says("var")) {
                return faulty(FORM);
            }
            return app.vars < MOST_VARS ? awaits(VAR_NAME) : faulty(MANY);
        }

        private boolean takeVarName() {
            if (!isNewName(app.varNamed(token.word))) {
                return false;
            }
            name = token.word;
            return awaits(VAR_MOST);
        }

        private boolean takeVarMost() {
            if (!isNumber(1, 9)) {
                return false;
            }
            app.addVar(name, token.number, kept);
            return awaits(VAR_END);
        }

        private boolean takeWindowName() {
            if (!isNewName(app.windowNamed(token.word))) {
                return false;
            }
            app.addWindow(token.word);
            return awaits(WINDOW_START);
        }

        /** SHOWS stand ahead of BUTTONS, and a TIMER behind all. */
        private boolean takePart() {
            int w = app.windows - 1;
            if (token.kind == '}') {
                return awaits(TOP);
            }
            if (app.timer[w] > 0) {
                return faulty(FORM);
            }
            if (token.says("after")) {
                return awaits(TIMER_TICKS);
            }
            if (token.says("button")) {
                return app.buttons < MOST_BUTTONS ? awaits(BUTTON_NAME) : faulty(MANY);
            }
            if (app.endButton[w] > app.firstButton[w] || !token.says("show")) {
                return faulty(FORM);
            }
            return app.showMany[w] < MOST_SHOWS ? awaits(SHOW_NAME) : faulty(MANY);
        }

        private boolean takeShowName() {
            if (!isVar()) {
                return false;
            }
            app.addShow(app.windows - 1, v);
            return awaits(SHOW_END);
        }

        private boolean takeButtonName() {
            int w = app.windows - 1;
            if (!isNewName(app.buttonNamed(w, token.word))) {
                return false;
            }
            list = app.buttons;
            app.addButton(w, token.word);
            return awaits(BUTTON_IF);
        }

        private boolean takeCondName() {
            if (!isVar()) {
                return false;
            }
            return app.conds.many[app.buttons - 1] < MOST_CONDS ? awaits(COND_SIGN) : faulty(MANY);
        }

        private boolean takeCondSign() {
            if (!Scanner.isComparison(token.kind)) {
                return faulty(FORM);
            }
            sign = token.kind;
            return awaits(COND_NUMBER);
        }

        private boolean takeCondNumber() {
            if (!isNumber(0, 9)) {
                return false;
            }
            app.conds.add(app.buttons - 1, v, sign, token.number);
            return awaits(COND_END);
        }

        private boolean takeTimerTicks() {
            if (!isNumber(1, 9)) {
                return false;
            }
            int w = app.windows - 1;
            list = Deeds.ofTimer(w);
            app.addTimer(w, token.number);
            return awaits(TIMER_DO);
        }

        private boolean takeDeed() {
            deed = deedSaid();
            if (deed == NONE) {
                return faulty(FORM);
            }
            if (app.deeds.many[list] >= MOST_DEEDS) {
                return faulty(MANY);
            }
            switch (deed) {
                case Deeds.OPEN:
                    return awaits(DEED_WINDOW);
                case Deeds.CLOSE:
                    app.deeds.add(list, deed, 0, 0);
                    return awaits(DEED_END);
                case Deeds.FAULT:
                    return awaits(DEED_NUMBER);
                default:
                    return awaits(DEED_VAR);
            }
        }

        private int deedSaid() {
            if (token.says("open")) {
                return Deeds.OPEN;
            }
            if (token.says("close")) {
                return Deeds.CLOSE;
            }
            if (token.says("set")) {
                return Deeds.SET;
            }
            if (token.says("add")) {
                return Deeds.ADD;
            }
            return token.says("fault") ? Deeds.FAULT : NONE;
        }

        private boolean takeDeedWindow() {
            if (token.kind != Scanner.WORD) {
                return faulty(FORM);
            }
            openDeed[opens] = app.deeds.add(list, deed, 0, 0);
            openName[opens] = token.word;
            openPlace[opens] = token.place;
            opens++;
            return awaits(DEED_END);
        }

        private boolean takeDeedVar() {
            return isVar() && awaits(DEED_NUMBER);
        }

        private boolean takeDeedNumber() {
            int from = deed == Deeds.SET ? 0 : 1;
            int upTo = deed == Deeds.FAULT ? MOST_FAULT : 9;
            if (deed == Deeds.SET) {
                upTo = app.greatest[v];
            }
            if (!isNumber(from, upTo)) {
                return false;
            }
            app.deeds.add(list, deed, v, token.number);
            return awaits(DEED_END);
        }

        private boolean findOpened() {
            for (int k = 0; k < opens; k++) {
                int w = app.windowNamed(openName[k]);
                if (w == NONE) {
                    fault = UNKNOWN;
                    faultPlace = openPlace[k];
                    return false;
                }
                app.deeds.on[openDeed[k]] = w;
            }
            return true;
        }
    }

    /** STATES, or pairs of them, in the order in which they are met, each with how it was met first. */
    private static final class Meetings {
        private static final int SLOTS = 1024;
        /** So far to the right that ten bits are left: a slot's number. */
        private static final int SLOT_SHIFT = 54;
        private static final long MIX = 0x9E3779B97F4A7C15L;
        private static final long MIX_TOO = 0xC2B2AE3D27D4EB4FL;

        private int many = 0;
        private final long[] left = new long[MOST_STATES];
        private final long[] right = new long[MOST_STATES];
        private final int[] from = new int[MOST_STATES];
        private final int[] by = new int[MOST_STATES];
        private final int[] deep = new int[MOST_STATES];
        /** Finds a pair by its bits: the pair's number and one more, or 0. */
        private final int[] slots = new int[SLOTS];

        private void clear() {
            many = 0;
            Arrays.fill(slots, 0);
        }

        /** The number of a pair, a new one if it is met first; NONE if there is no room for it. */
        private int meet(long one, long other, int before, int act) {
            int start = (int) ((one * MIX + other * MIX_TOO) >>> SLOT_SHIFT);
            for (int k = 0; k < SLOTS; k++) {
                int slot = start + k & SLOTS - 1;
                int there = slots[slot] - 1;
                if (there < 0) {
                    return many < MOST_STATES ? keep(slot, one, other, before, act) : NONE;
                }
                if (left[there] == one && right[there] == other) {
                    return there;
                }
            }
            return NONE;
        }

        private int keep(int slot, long one, long other, int before, int act) {
            int number = many;
            left[number] = one;
            right[number] = other;
            from[number] = before;
            by[number] = act;
            deep[number] = before < 0 ? 0 : deep[before] + 1;
            many++;
            slots[slot] = many;
            return number;
        }

        /** Writes the ROW to the pair: how many ACTS. */
        private int traced(int number, int[] into) {
            int at = number;
            for (int k = deep[number] - 1; k >= 0 && at >= 0 && k < into.length; k--) {
                into[k] = by[at];
                at = from[at];
            }
            return deep[number];
        }
    }

    /** THE MAP. */
    private static final class Atlas {
        private int whose = NONE;
        /** The APP whose MAP it is; any, while there is none. */
        private App app;
        private final Meetings states = new Meetings();
        /** Where ACT a leads from STATE s, at s * ACTS + a. */
        private final int[] to = new int[MOST_STATES * ACTS];
        private final Meetings sorter = new Meetings();
        /** How many kinds LEAST has; 0 until they are asked for. */
        private int kinds = 0;
        private final int[] kind = new int[MOST_STATES];
        private final int[] newKind = new int[MOST_STATES];
        private final boolean[] leadsThere = new boolean[MOST_STATES];

        private Atlas(App any) {
            app = any;
        }

        private void drop() {
            whose = NONE;
            kinds = 0;
        }

        private boolean stands() {
            return whose != NONE;
        }

        private int many() {
            return stands() ? states.many : 0;
        }

        /** Makes THE MAP: false, and there is none, if the STATES are too many. */
        private boolean made(App of, int number) {
            drop();
            states.clear();
            states.meet(of.beginning(), 0, NONE, NONE);
            for (int s = 0; s < states.many && s < MOST_STATES; s++) {
                if (!goneFrom(of, s)) {
                    return false;
                }
            }
            app = of;
            whose = number;
            return true;
        }

        private boolean goneFrom(App of, int s) {
            long here = states.left[s];
            for (int act = 0; act < ACTS; act++) {
                int next = ABSENT;
                if (of.possible(here, act)) {
                    next = states.meet(of.after(here, act), 0, s, act);
                    if (next == NONE) {
                        return false;
                    }
                }
                to[s * ACTS + act] = next;
            }
            return true;
        }

        private int waysFrom(int s) {
            int ways = 0;
            for (int act = 0; act < ACTS; act++) {
                if (to[s * ACTS + act] >= 0) {
                    ways++;
                }
            }
            return ways;
        }

        private int waysMany() {
            int ways = 0;
            for (int s = 0; s < states.many; s++) {
                ways += waysFrom(s);
            }
            return ways;
        }

        private int deepest() {
            int most = 0;
            for (int s = 0; s < states.many; s++) {
                most = Math.max(most, states.deep[s]);
            }
            return most;
        }

        private int firstOfFault(int number) {
            for (int s = 0; s < states.many; s++) {
                if (Bits.faultOf(states.left[s]) == number) {
                    return s;
                }
            }
            return ABSENT;
        }

        private int firstOfPressed(int b) {
            for (int s = 0; s < states.many; s++) {
                if (to[s * ACTS + b] >= 0) {
                    return s;
                }
            }
            return ABSENT;
        }

        private int neverMany() {
            int never = 0;
            for (int b = 0; b < app.buttons; b++) {
                if (firstOfPressed(b) == ABSENT) {
                    never++;
                }
            }
            return never;
        }

        private int firstOfValue(int v, int value) {
            for (int s = 0; s < states.many; s++) {
                if (Bits.valueOf(states.left[s], v) == value) {
                    return s;
                }
            }
            return ABSENT;
        }

        private int firstWithoutWayTo(int w) {
            for (int s = 0; s < states.many; s++) {
                leadsThere[s] = Bits.topOf(states.left[s]) == w;
            }
            boolean again = true;
            for (int round = 0; again && round <= MOST_STATES; round++) {
                again = markMore();
            }
            for (int s = 0; s < states.many; s++) {
                if (!leadsThere[s]) {
                    return s;
                }
            }
            return ABSENT;
        }

        /** Backward, since most ways lead to STATES of higher numbers: whether one more was marked. */
        private boolean markMore() {
            boolean some = false;
            for (int s = states.many - 1; s >= 0; s--) {
                if (!leadsThere[s] && leadsToMarked(s)) {
                    leadsThere[s] = true;
                    some = true;
                }
            }
            return some;
        }

        private boolean leadsToMarked(int s) {
            for (int act = 0; act < TORN; act++) {
                int next = to[s * ACTS + act];
                if (next >= 0 && leadsThere[next]) {
                    return true;
                }
            }
            return false;
        }

        private int viewsMany() {
            sorter.clear();
            for (int s = 0; s < states.many; s++) {
                sorter.meet(app.viewOf(states.left[s]), 0, NONE, NONE);
            }
            return sorter.many;
        }

        private int kindsMany() {
            if (kinds == 0 && stands()) {
                partByViews();
                partByWays();
            }
            return kinds;
        }

        private int kindOf(int s) {
            return kindsMany() > 0 ? kind[s] : NONE;
        }

        /** The VIEW tells all ACTS that are possible but BACK. */
        private void partByViews() {
            sorter.clear();
            for (int s = 0; s < states.many; s++) {
                long there = states.left[s];
                int back = app.possible(there, BACK) ? 1 : 0;
                kind[s] = sorter.meet(app.viewOf(there), back, NONE, NONE);
            }
            kinds = sorter.many;
        }

        /** Parts kinds by where each ACT in turn leads, until no ACT parts one. */
        private void partByWays() {
            int idle = 0;
            // what parts a kind makes them more, so at most every ACTS turns but for as many as STATES
            for (int turn = 0; idle < ACTS && turn < (MOST_STATES + 1) * ACTS; turn++) {
                idle = partedBy(turn % ACTS) ? 0 : idle + 1;
            }
        }

        /** New kinds are numbered as STATES come, so by their first STATES. */
        private boolean partedBy(int act) {
            if (act >= app.buttons && act < WAIT) {
                return false;
            }
            sorter.clear();
            for (int s = 0; s < states.many; s++) {
                int next = to[s * ACTS + act];
                newKind[s] = sorter.meet(kind[s], next >= 0 ? kind[next] : NONE, NONE, NONE);
            }
            System.arraycopy(newKind, 0, kind, 0, states.many);
            boolean more = sorter.many > kinds;
            kinds = sorter.many;
            return more;
        }
    }

    /** Two APPS side by side, gone through up to where they show unlike. */
    private static final class Beside {
        private App first;
        private App second;
        private final Meetings pairs = new Meetings();
        private boolean tooMany = false;
        /** The pair that shows unlike, or in which the last ACT is possible in one alone; NONE. */
        private int unlikeAt = NONE;
        /** That ACT; NONE if the pair itself shows unlike. */
        private int lastAct = NONE;

        private Beside(App one, App other) {
            first = one;
            second = other;
        }

        private void goThrough(App one, App other) {
            first = one;
            second = other;
            tooMany = false;
            unlikeAt = NONE;
            lastAct = NONE;
            pairs.clear();
            pairs.meet(one.beginning(), other.beginning(), NONE, NONE);
            lookAt(0);
            for (int p = 0; p < pairs.many && p < MOST_STATES && !ended(); p++) {
                for (int act = 0; act < ACTS && !ended(); act++) {
                    int known = pairs.many;
                    goByFirst(p, act);
                    lookAt(known);
                }
                findAloneInSecond(p);
            }
        }

        private boolean ended() {
            return tooMany || unlikeAt != NONE;
        }

        private void goByFirst(int p, int act) {
            long here = pairs.left[p];
            long there = pairs.right[p];
            if (!first.possible(here, act)) {
                return;
            }
            int same = twin(first, act, second, there);
            if (!second.possible(there, same)) {
                unlikeAt = p;
                lastAct = act;
                return;
            }
            int next = pairs.meet(first.after(here, act), second.after(there, same), p, act);
            tooMany = next == NONE;
        }

        /** A pair that shows alike has its BUTTONS, WAIT and TORN by the same names: BACK alone is left. */
        private void findAloneInSecond(int p) {
            boolean alone = second.possible(pairs.right[p], BACK) && !first.possible(pairs.left[p], BACK);
            if (alone && !ended()) {
                unlikeAt = p;
                lastAct = OF_SECOND + BACK;
            }
        }

        /** Ends the way at a pair that shows unlike, if it was met at all. */
        private void lookAt(int p) {
            if (p < pairs.many && showUnlike(pairs.left[p], pairs.right[p])) {
                unlikeAt = p;
            }
        }

        /** The ACT of the other APP that has the same name where it is; NONE. */
        private static int twin(App app, int act, App other, long there) {
            if (act >= WAIT) {
                return act;
            }
            int top = Bits.topOf(there);
            return top == NONE ? NONE : other.buttonNamed(top, app.buttonNames[act]);
        }

        private boolean showUnlike(long here, long there) {
            int top = Bits.topOf(here);
            int otherTop = Bits.topOf(there);
            if (top == NONE || otherTop == NONE) {
                return Bits.faultOf(here) != Bits.faultOf(there);
            }
            return first.windowNames[top] != second.windowNames[otherTop]
                    || numbersUnlike(here, top, there, otherTop)
                    || oneMorePressed(first, here, second, there)
                    || oneMorePressed(second, there, first, here);
        }

        private boolean numbersUnlike(long here, int top, long there, int otherTop) {
            int shows = first.showMany[top];
            if (shows != second.showMany[otherTop]) {
                return true;
            }
            for (int k = 0; k < shows; k++) {
                if (first.shownIn(here, top, k) != second.shownIn(there, otherTop, k)) {
                    return true;
                }
            }
            return false;
        }

        /** Whether a BUTTON can be pressed in the one APP whose name can't be in the other. */
        private static boolean oneMorePressed(App app, long here, App other, long there) {
            int top = Bits.topOf(here);
            int otherTop = Bits.topOf(there);
            if (top == NONE || otherTop == NONE) {
                return false;
            }
            for (int b = app.firstButton[top]; b < app.endButton[top]; b++) {
                if (app.conds.hold(b, here)) {
                    int same = other.buttonNamed(otherTop, app.buttonNames[b]);
                    if (same == NONE || !other.conds.hold(same, there)) {
                        return true;
                    }
                }
            }
            return false;
        }

        private int rowInto(int[] row) {
            if (unlikeAt == NONE) {
                return 0;
            }
            int many = pairs.traced(unlikeAt, row);
            if (lastAct == NONE || many >= row.length) {
                return many;
            }
            row[many] = lastAct;
            return many + 1;
        }
    }
}
