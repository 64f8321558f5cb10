import java.util.ArrayDeque;
import java.util.ArrayList;
import java.util.HashMap;
import java.util.HashSet;
import java.util.LinkedHashMap;
import java.util.LinkedHashSet;
import java.util.List;
import java.util.Map;
import java.util.NoSuchElementException;
import java.util.Set;
import java.util.TreeSet;

/**
 * The document once more, written for plainness alone and with the whole library, so that the class
 * can be held against it: the two share no code and no way of keeping things.
 */
final class Oracle {
    // ---- texts

    private static final class TextFault extends Exception {
        private static final long serialVersionUID = 1;
        final int number;
        final int place;

        TextFault(int number, int place) {
            this.number = number;
            this.place = place;
        }
    }

    private record Token(char kind, String text, int place) { }

    private record Var(String name, int most, boolean kept) { }

    private record Cond(int v, char sign, int number) { }

    private record Deed(String what, String window, int v, int number, int place) { }

    private record Button(String name, int home, List<Cond> conds, List<Deed> deeds) { }

    private static final class Window {
        final String name;
        final List<Integer> shows = new ArrayList<>();
        int ticks = 0;
        List<Deed> deeds = List.of();

        Window(String name) {
            this.name = name;
        }
    }

    private static final class Told {
        final List<Var> vars = new ArrayList<>();
        final List<Window> windows = new ArrayList<>();
        final List<Button> buttons = new ArrayList<>();

        int var(String name) {
            for (int v = 0; v < vars.size(); v++) {
                if (vars.get(v).name.equals(name)) {
                    return v;
                }
            }
            return -1;
        }

        int window(String name) {
            for (int w = 0; w < windows.size(); w++) {
                if (windows.get(w).name.equals(name)) {
                    return w;
                }
            }
            return -1;
        }
    }

    /** All TOKENS; behind them E, the end, or X, the first byte that begins none. */
    private static List<Token> tokens(String text) {
        List<Token> found = new ArrayList<>();
        int at = 0;
        while (at < text.length()) {
            String rest = text.substring(at);
            String word = rest.replaceFirst("(?s)^([a-z]*).*$", "$1");
            String number = rest.replaceFirst("(?s)^([0-9]*).*$", "$1");
            char sign = rest.charAt(0);
            if (sign == ' ' || sign == '\n') {
                at++;
            } else if (!word.isEmpty() && word.length() <= 8) {
                found.add(new Token('w', word, at));
                at += word.length();
            } else if (!number.isEmpty() && number.length() <= 2) {
                found.add(new Token('n', number, at));
                at += number.length();
            } else if ("{};,=<>".indexOf(sign) >= 0) {
                found.add(new Token('s', "" + sign, at));
                at++;
            } else {
                found.add(new Token('X', "", at));
                return found;
            }
        }
        found.add(new Token('E', "", text.length()));
        return found;
    }

    private static final class Parser {
        final List<Token> tokens;
        int at = 0;
        final Told told = new Told();
        final List<Deed> opens = new ArrayList<>();

        Parser(String text) {
            tokens = tokens(text);
        }

        Token here() {
            return tokens.get(at);
        }

        boolean is(String text) {
            return here().text.equals(text);
        }

        void fail(int number) throws TextFault {
            throw new TextFault(number, here().place);
        }

        void take(String text) throws TextFault {
            if (!is(text)) {
                fail(1);
            }
            at++;
        }

        String word() throws TextFault {
            if (here().kind != 'w') {
                fail(1);
            }
            return here().text;
        }

        int var() throws TextFault {
            int v = told.var(word());
            if (v < 0) {
                fail(2);
            }
            return v;
        }

        int number(int from, int upTo) throws TextFault {
            if (here().kind != 'n') {
                fail(1);
            }
            int number = Integer.parseInt(here().text);
            if (number < from || number > upTo) {
                fail(4);
            }
            at++;
            return number;
        }

        Told app() throws TextFault {
            while (is("var") || is("kept")) {
                if (told.vars.size() == 6) {
                    fail(5);
                }
                boolean kept = is("kept");
                at++;
                String name = word();
                if (told.var(name) >= 0) {
                    fail(3);
                }
                at++;
                told.vars.add(new Var(name, number(1, 9), kept));
                take(";");
            }
            do {
                if (is("window") && told.windows.size() == 8) {
                    fail(5);
                }
                window();
            } while (here().kind != 'E');
            for (Deed open : opens) {
                if (told.window(open.window) < 0) {
                    throw new TextFault(2, open.place);
                }
            }
            return told;
        }

        void window() throws TextFault {
            take("window");
            if (told.window(word()) >= 0) {
                fail(3);
            }
            Window window = new Window(word());
            told.windows.add(window);
            at++;
            take("{");
            while (is("show")) {
                if (window.shows.size() == 6) {
                    fail(5);
                }
                at++;
                window.shows.add(var());
                at++;
                take(";");
            }
            Set<String> names = new HashSet<>();
            while (is("button")) {
                if (told.buttons.size() == 24) {
                    fail(5);
                }
                at++;
                button(names);
            }
            if (is("after")) {
                at++;
                window.ticks = number(1, 9);
                take("do");
                window.deeds = deeds();
            }
            take("}");
        }

        void button(Set<String> names) throws TextFault {
            String name = word();
            if (!names.add(name)) {
                fail(3);
            }
            at++;
            List<Cond> conds = new ArrayList<>();
            if (is("if")) {
                do {
                    at++;
                    int v = var();
                    if (conds.size() == 3) {
                        fail(5);
                    }
                    at++;
                    if (!is("=") && !is("<") && !is(">")) {
                        fail(1);
                    }
                    char sign = here().text.charAt(0);
                    at++;
                    conds.add(new Cond(v, sign, number(0, 9)));
                } while (is("and"));
            }
            take("do");
            told.buttons.add(new Button(name, told.windows.size() - 1, conds, deeds()));
        }

        List<Deed> deeds() throws TextFault {
            List<Deed> deeds = new ArrayList<>();
            while (true) {
                if (!Set.of("open", "close", "set", "add", "fault").contains(here().text)) {
                    fail(1);
                }
                if (deeds.size() == 4) {
                    fail(5);
                }
                deeds.add(deed());
                if (!is(",")) {
                    take(";");
                    return deeds;
                }
                at++;
            }
        }

        Deed deed() throws TextFault {
            String what = here().text;
            at++;
            if (what.equals("close")) {
                return new Deed(what, null, -1, -1, -1);
            }
            if (what.equals("fault")) {
                return new Deed(what, null, -1, number(1, 20), -1);
            }
            if (what.equals("open")) {
                Deed open = new Deed(what, word(), -1, -1, here().place);
                opens.add(open);
                at++;
                return open;
            }
            int v = var();
            at++;
            int from = what.equals("set") ? 0 : 1;
            int upTo = what.equals("set") ? told.vars.get(v).most : 9;
            return new Deed(what, null, v, number(from, upTo), -1);
        }
    }

    // ---- states: open WINDOWS from the lowest, their TICKS, the VARS, the FAULT

    private record State(List<Integer> open, List<Integer> ticks, List<Integer> vars, int fault) {
        int top() {
            return open.isEmpty() ? -1 : open.get(open.size() - 1);
        }
    }

    private static State beginning(Told app) {
        List<Integer> vars = new ArrayList<>();
        for (int v = 0; v < app.vars.size(); v++) {
            vars.add(0);
        }
        return new State(List.of(0), List.of(0), vars, 0);
    }

    private static boolean holds(Cond cond, State s) {
        int value = s.vars.get(cond.v);
        return cond.sign == '=' ? value == cond.number : cond.sign == '<' ? value < cond.number : value > cond.number;
    }

    private static boolean possible(Told app, State s, int act) {
        if (act == 26) {
            return true;
        }
        if (s.fault != 0 || act < 0 || act > 26) {
            return false;
        }
        if (act == 24) {
            return true;
        }
        if (act == 25) {
            return s.open.size() >= 2;
        }
        if (act >= app.buttons.size() || app.buttons.get(act).home != s.top()) {
            return false;
        }
        for (Cond cond : app.buttons.get(act).conds) {
            if (!holds(cond, s)) {
                return false;
            }
        }
        return true;
    }

    private static List<Integer> keptOnly(Told app, List<Integer> vars) {
        List<Integer> kept = new ArrayList<>();
        for (int v = 0; v < vars.size(); v++) {
            kept.add(app.vars.get(v).kept ? vars.get(v) : 0);
        }
        return kept;
    }

    private static State after(Told app, State s, int act) {
        List<Integer> open = new ArrayList<>(s.open);
        List<Integer> ticks = new ArrayList<>(s.ticks);
        List<Integer> vars = new ArrayList<>(s.vars);
        if (act == 26) {
            return new State(List.of(0), List.of(0), keptOnly(app, vars), 0);
        }
        int last = open.size() - 1;
        List<Deed> deeds = List.of();
        if (act == 25) {
            open.remove(last);
            ticks.remove(last);
        } else if (act == 24) {
            Window window = app.windows.get(s.top());
            if (window.ticks > 0) {
                ticks.set(last, ticks.get(last) + 1);
                if (ticks.get(last) == window.ticks) {
                    ticks.set(last, 0);
                    deeds = window.deeds;
                }
            }
        } else {
            deeds = app.buttons.get(act).deeds;
        }
        for (Deed deed : deeds) {
            switch (deed.what) {
                case "open" -> {
                    if (open.size() < 5) {
                        open.add(app.window(deed.window));
                        ticks.add(0);
                    }
                }
                case "close" -> {
                    if (open.size() > 1) {
                        open.remove(open.size() - 1);
                        ticks.remove(ticks.size() - 1);
                    }
                }
                case "set" -> vars.set(deed.v, deed.number);
                case "add" -> vars.set(deed.v, (vars.get(deed.v) + deed.number) % (app.vars.get(deed.v).most + 1));
                default -> {
                    return new State(List.of(), List.of(), keptOnly(app, vars), deed.number);
                }
            }
        }
        return new State(open, ticks, vars, 0);
    }

    /** The VIEW, by names. */
    private static String view(Told app, State s) {
        if (s.fault != 0) {
            return "fault " + s.fault;
        }
        Window window = app.windows.get(s.top());
        List<Integer> shown = new ArrayList<>();
        for (int v : window.shows) {
            shown.add(s.vars.get(v));
        }
        Set<String> buttons = new TreeSet<>();
        for (int b = 0; b < app.buttons.size(); b++) {
            if (possible(app, s, b)) {
                buttons.add(app.buttons.get(b).name);
            }
        }
        return window.name + shown + buttons;
    }

    private static Set<String> actNames(Told app, State s) {
        Set<String> names = new LinkedHashSet<>();
        for (int act = 0; act < 27; act++) {
            if (possible(app, s, act)) {
                names.add(actName(app, act));
            }
        }
        return names;
    }

    private static String actName(Told app, int act) {
        return act >= 24 ? "" + act : app.buttons.get(act).name;
    }

    private static int actNamed(Told app, State s, String name) {
        for (int act = 0; act < 27; act++) {
            if (possible(app, s, act) && actName(app, act).equals(name)) {
                return act;
            }
        }
        return -1;
    }

    // ---- the object

    private final StringBuilder tape = new StringBuilder();
    private final Told[] apps = new Told[2];
    private final State[] hand = new State[2];
    private int fault = 0;
    private int place = 0;
    private int trouble = 0;
    private List<Integer> row = new ArrayList<>();
    private int tried = -1;
    private int pairs = 0;
    private int mapped = -1;
    private List<State> states = new ArrayList<>();
    private List<List<Integer>> rows = new ArrayList<>();
    private List<Map<Integer, Integer>> leads = new ArrayList<>();

    private int refuse(int why) {
        trouble = why;
        return -1;
    }

    private int grant(int answer) {
        trouble = 0;
        return answer;
    }

    private boolean has(int a) {
        return (a == 0 || a == 1) && apps[a] != null;
    }

    int feed(int a, int b, int c, int d, int e) {
        if (tape.length() + 20 > 800) {
            return -1;
        }
        for (int four : new int[] {a, b, c, d, e}) {
            for (int k = 3; k >= 0; k--) {
                tape.append((char) (four >> 8 * k & 0xFF));
            }
        }
        return tape.length();
    }

    int app(int a, int n) {
        if (a != 0 && a != 1) {
            return refuse(1);
        }
        if (n < 0 || n > tape.length()) {
            return refuse(2);
        }
        String text = tape.substring(0, n);
        tape.setLength(0);
        try {
            apps[a] = new Parser(text).app();
        } catch (TextFault found) {
            fault = found.number;
            place = found.place;
            return refuse(3);
        }
        fault = 0;
        hand[a] = beginning(apps[a]);
        if (mapped == a) {
            mapped = -1;
        }
        return grant(apps[a].windows.size());
    }

    int fault() {
        return fault;
    }

    int where() {
        return trouble == 3 ? place : -1;
    }

    int about(int a, int what) {
        if (!has(a)) {
            return -1;
        }
        Told app = apps[a];
        return switch (what) {
            case 0 -> app.windows.size();
            case 1 -> app.buttons.size();
            case 2 -> app.vars.size();
            case 3 -> (int) app.vars.stream().filter(Var::kept).count();
            case 4 -> app.windows.stream().mapToInt(w -> w.shows.size()).sum();
            case 5 -> (int) app.windows.stream().filter(w -> w.ticks > 0).count();
            default -> -1;
        };
    }

    int button(int a, int b, int what) {
        if (!has(a) || b < 0 || b >= apps[a].buttons.size()) {
            return -1;
        }
        Button button = apps[a].buttons.get(b);
        return what == 0 ? button.home : what == 1 ? button.conds.size() : what == 2 ? button.deeds.size() : -1;
    }

    int act(int a, int act) {
        if (!has(a)) {
            return refuse(1);
        }
        if (act < 0 || act > 26) {
            return refuse(2);
        }
        if (!possible(apps[a], hand[a], act)) {
            return refuse(4);
        }
        hand[a] = after(apps[a], hand[a], act);
        return grant(1);
    }

    int state(int a, int what) {
        if (!has(a)) {
            return -1;
        }
        State s = hand[a];
        return switch (what) {
            case 0 -> s.fault;
            case 1 -> s.open.size();
            case 2 -> s.top();
            case 3 -> s.ticks.isEmpty() ? -1 : s.ticks.get(s.ticks.size() - 1);
            case 4 -> actNames(apps[a], s).size();
            default -> -1;
        };
    }

    int var(int a, int v) {
        return has(a) && v >= 0 && v < apps[a].vars.size() ? hand[a].vars.get(v) : -1;
    }

    int can(int a, int act) {
        return !has(a) || act < 0 || act > 26 ? -1 : possible(apps[a], hand[a], act) ? 1 : 0;
    }

    boolean begin(int a) {
        if (!has(a)) {
            refuse(1);
            return false;
        }
        hand[a] = beginning(apps[a]);
        grant(0);
        return true;
    }

    int map(int a) {
        if (!has(a)) {
            return refuse(1);
        }
        mapped = -1;
        states = new ArrayList<>();
        rows = new ArrayList<>();
        leads = new ArrayList<>();
        Map<State, Integer> known = new HashMap<>();
        known.put(beginning(apps[a]), 0);
        states.add(beginning(apps[a]));
        rows.add(List.of());
        for (int s = 0; s < states.size(); s++) {
            Map<Integer, Integer> to = new LinkedHashMap<>();
            for (int act = 0; act < 27; act++) {
                if (possible(apps[a], states.get(s), act)) {
                    State next = after(apps[a], states.get(s), act);
                    if (!known.containsKey(next)) {
                        known.put(next, states.size());
                        states.add(next);
                        List<Integer> longer = new ArrayList<>(rows.get(s));
                        longer.add(act);
                        rows.add(longer);
                        if (states.size() > 400) {
                            return refuse(5);
                        }
                    }
                    to.put(act, known.get(next));
                }
            }
            leads.add(to);
        }
        mapped = a;
        return grant(states.size());
    }

    /** The kind of each STATE: two are of one kind unless they can be told apart. */
    private List<Integer> kinds() {
        int n = states.size();
        boolean[][] unlike = new boolean[n][n];
        List<String> shown = new ArrayList<>();
        for (int s = 0; s < n; s++) {
            shown.add(view(apps[mapped], states.get(s)) + leads.get(s).keySet());
        }
        for (int s = 0; s < n; s++) {
            for (int t = 0; t < n; t++) {
                unlike[s][t] = !shown.get(s).equals(shown.get(t));
            }
        }
        boolean again = true;
        while (again) {
            again = false;
            for (int s = 0; s < n; s++) {
                for (int t = 0; t < s; t++) {
                    if (!unlike[s][t]) {
                        for (int act : leads.get(s).keySet()) {
                            if (unlike[leads.get(s).get(act)][leads.get(t).get(act)]) {
                                unlike[s][t] = true;
                                unlike[t][s] = true;
                                again = true;
                                break;
                            }
                        }
                    }
                }
            }
        }
        List<Integer> kinds = new ArrayList<>();
        int next = 0;
        for (int s = 0; s < n; s++) {
            int kind = -1;
            for (int t = 0; t < s && kind < 0; t++) {
                if (!unlike[s][t]) {
                    kind = kinds.get(t);
                }
            }
            kinds.add(kind < 0 ? next++ : kind);
        }
        return kinds;
    }

    int met(int s, int what) {
        if (mapped < 0 || s < 0 || s >= states.size()) {
            return -1;
        }
        return switch (what) {
            case 0 -> states.get(s).fault;
            case 1 -> states.get(s).open.size();
            case 2 -> states.get(s).top();
            case 3 -> rows.get(s).size();
            case 4 -> leads.get(s).size();
            case 5 -> kinds().get(s);
            default -> -1;
        };
    }

    int leads(int s, int act) {
        if (mapped < 0 || s < 0 || s >= states.size() || act < 0 || act > 26) {
            return -1;
        }
        return leads.get(s).getOrDefault(act, -2);
    }

    int rowTo(int s) {
        if (mapped < 0) {
            return refuse(6);
        }
        if (s < 0 || s >= states.size()) {
            return refuse(1);
        }
        row = new ArrayList<>(rows.get(s));
        return grant(row.size());
    }

    int faultAt(int number) {
        if (mapped < 0) {
            return refuse(6);
        }
        if (number < 1 || number > 20) {
            return refuse(2);
        }
        for (int s = 0; s < states.size(); s++) {
            if (states.get(s).fault == number) {
                return grant(s);
            }
        }
        return grant(-2);
    }

    private int pressed(int b) {
        for (int s = 0; s < states.size(); s++) {
            if (leads.get(s).containsKey(b)) {
                return s;
            }
        }
        return -2;
    }

    int pressedAt(int b) {
        if (mapped < 0) {
            return refuse(6);
        }
        if (b < 0 || b >= apps[mapped].buttons.size()) {
            return refuse(1);
        }
        return grant(pressed(b));
    }

    int never() {
        if (mapped < 0) {
            return refuse(6);
        }
        int never = 0;
        for (int b = 0; b < apps[mapped].buttons.size(); b++) {
            never += pressed(b) == -2 ? 1 : 0;
        }
        return grant(never);
    }

    int holdsAt(int v, int value) {
        if (mapped < 0) {
            return refuse(6);
        }
        if (v < 0 || v >= apps[mapped].vars.size()) {
            return refuse(1);
        }
        for (int s = 0; s < states.size(); s++) {
            if (states.get(s).vars.get(v) == value) {
                return grant(s);
            }
        }
        return grant(-2);
    }

    int stuck(int w) {
        if (mapped < 0) {
            return refuse(6);
        }
        if (w < 0 || w >= apps[mapped].windows.size()) {
            return refuse(1);
        }
        for (int s = 0; s < states.size(); s++) {
            Set<Integer> reached = new HashSet<>(Set.of(s));
            ArrayDeque<Integer> open = new ArrayDeque<>(reached);
            boolean there = false;
            while (!open.isEmpty() && !there) {
                int at = open.poll();
                there = states.get(at).top() == w;
                for (Map.Entry<Integer, Integer> way : leads.get(at).entrySet()) {
                    if (way.getKey() != 26 && reached.add(way.getValue())) {
                        open.add(way.getValue());
                    }
                }
            }
            if (!there) {
                return grant(s);
            }
        }
        return grant(-2);
    }

    int least() {
        return mapped < 0 ? refuse(6) : grant(new HashSet<>(kinds()).size());
    }

    int views() {
        if (mapped < 0) {
            return refuse(6);
        }
        Set<String> views = new HashSet<>();
        for (State s : states) {
            views.add(view(apps[mapped], s));
        }
        return grant(views.size());
    }

    int farthest() {
        return mapped < 0 ? refuse(6) : grant(rows.stream().mapToInt(List::size).max().getAsInt());
    }

    int ways() {
        return mapped < 0 ? refuse(6) : grant(leads.stream().mapToInt(Map::size).sum());
    }

    int push(int act) {
        if (act < 0 || act > 26) {
            return refuse(2);
        }
        if (row.size() == 400) {
            return refuse(4);
        }
        row.add(act);
        return grant(row.size());
    }

    boolean cut(int n) {
        if (n < 0 || n > row.size()) {
            refuse(2);
            return false;
        }
        row = new ArrayList<>(row.subList(0, n));
        grant(0);
        return true;
    }

    /** The FAULT, and how many ACTS. */
    private static int[] tryOn(Told app, List<Integer> acts) {
        State s = beginning(app);
        for (int k = 0; k < acts.size(); k++) {
            if (possible(app, s, acts.get(k))) {
                s = after(app, s, acts.get(k));
            }
            if (s.fault != 0) {
                return new int[] {s.fault, k + 1};
            }
        }
        return new int[] {0, acts.size()};
    }

    int tryRow(int a) {
        if (!has(a)) {
            return refuse(1);
        }
        int[] end = tryOn(apps[a], row);
        tried = end[1];
        return grant(end[0]);
    }

    int tried() {
        return tried;
    }

    int shorter(int a) {
        if (!has(a)) {
            return refuse(1);
        }
        int[] end = tryOn(apps[a], row);
        if (end[0] == 0) {
            return refuse(4);
        }
        row = new ArrayList<>(row.subList(0, end[1]));
        boolean again = true;
        while (again) {
            again = false;
            for (int k = row.size() - 1; k >= 0; k--) {
                List<Integer> without = new ArrayList<>(row);
                without.remove(k);
                if (tryOn(apps[a], without)[0] == end[0]) {
                    row = without;
                    again = true;
                }
            }
        }
        return grant(row.size());
    }

    int row(int k) {
        if (k < 0 || k >= row.size()) {
            throw new NoSuchElementException();
        }
        return row.get(k);
    }

    private record Pair(State one, State other) { }

    int apart() {
        if (!has(0) || !has(1)) {
            return refuse(1);
        }
        Pair first = new Pair(beginning(apps[0]), beginning(apps[1]));
        Map<Pair, List<Integer>> known = new LinkedHashMap<>();
        List<Pair> order = new ArrayList<>();
        known.put(first, List.of());
        order.add(first);
        pairs = 1;
        if (unlike(first)) {
            row = new ArrayList<>();
            return grant(0);
        }
        for (int p = 0; p < order.size(); p++) {
            Pair here = order.get(p);
            Set<String> names = actNames(apps[0], here.one);
            for (String name : names) {
                int act = actNamed(apps[0], here.one, name);
                int same = actNamed(apps[1], here.other, name);
                List<Integer> longer = new ArrayList<>(known.get(here));
                longer.add(act);
                if (same < 0) {
                    row = longer;
                    return grant(row.size());
                }
                Pair next = new Pair(after(apps[0], here.one, act), after(apps[1], here.other, same));
                if (!known.containsKey(next)) {
                    if (order.size() == 400) {
                        return refuse(5);
                    }
                    known.put(next, longer);
                    order.add(next);
                    pairs = order.size();
                    if (unlike(next)) {
                        row = longer;
                        return grant(row.size());
                    }
                }
            }
            for (String name : actNames(apps[1], here.other)) {
                if (!names.contains(name)) {
                    row = new ArrayList<>(known.get(here));
                    row.add(100 + actNamed(apps[1], here.other, name));
                    return grant(row.size());
                }
            }
        }
        return grant(-2);
    }

    private boolean unlike(Pair pair) {
        return !view(apps[0], pair.one).equals(view(apps[1], pair.other));
    }

    int count(int what) {
        return switch (what) {
            case 0 -> mapped < 0 ? 0 : states.size();
            case 1 -> mapped;
            case 2 -> row.size();
            case 3 -> tape.length();
            case 4 -> pairs;
            default -> -1;
        };
    }

    int trouble() {
        return trouble;
    }
}
