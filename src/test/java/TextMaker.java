import java.util.ArrayList;
import java.util.Collections;
import java.util.List;
import java.util.Random;

/** Makes texts of APPS, whole ones and ones with a fault somewhere, always the same for one seed. */
final class TextMaker {
    private static final String[] NAMES = {"a", "b", "c", "x", "open", "do", "window", "longname", "if", "q"};
    private static final String[] STRAYS = {
        "{", "}", ";", ",", "=", "<", ">", "0", "9", "10", "99", "123", "a", "zz", "var", "kept", "window", "show",
        "button", "if", "and", "do", "after", "open", "close", "set", "add", "fault", "longnames", "A", "#", "\t",
        "" + (char) 233, "" + (char) 0, "-", "21", "20"};

    private final Random random;
    private final List<String> tokens = new ArrayList<>();
    private List<String> vars = new ArrayList<>();
    private List<Integer> mosts = new ArrayList<>();
    private List<String> windows = new ArrayList<>();
    /** Where in tokens each VAR begins, and the first WINDOW behind them. */
    private final List<Integer> varStarts = new ArrayList<>();
    /** Of each WINDOW: where it begins, each of its BUTTONS, what is behind these, and where it ends. */
    private final List<List<Integer>> windowStarts = new ArrayList<>();

    TextMaker(long seed) {
        random = new Random(seed);
    }

    int upTo(int most) {
        return random.nextInt(most + 1);
    }

    boolean once(int in) {
        return random.nextInt(in) == 0;
    }

    private void put(String... some) {
        for (String one : some) {
            tokens.add(one);
        }
    }

    private List<String> names(int many) {
        List<String> left = new ArrayList<>(List.of(NAMES));
        List<String> names = new ArrayList<>();
        while (names.size() < many) {
            names.add(left.isEmpty() ? "n" + (char) ('a' + names.size()) : left.remove(once(3) ? upTo(left.size() - 1) : 0));
        }
        return names;
    }

    /** The TOKENS of an APP; a large one has more of everything than there may be, now and then. */
    List<String> tokens(boolean large) {
        tokens.clear();
        varStarts.clear();
        windowStarts.clear();
        vars = names(upTo(large ? 7 : 3));
        mosts = new ArrayList<>();
        for (String name : vars) {
            int most = 1 + upTo(large ? 8 : 2);
            mosts.add(most);
            varStarts.add(tokens.size());
            put(once(3) ? "kept" : "var", name, "" + most, ";");
        }
        varStarts.add(tokens.size());
        windows = names(1 + upTo(large ? 8 : 2));
        for (String name : windows) {
            window(name, large);
        }
        return new ArrayList<>(tokens);
    }

    private void window(String name, boolean large) {
        List<Integer> starts = new ArrayList<>(List.of(tokens.size()));
        windowStarts.add(starts);
        put("window", name, "{");
        int shows = vars.isEmpty() ? 0 : upTo(large && once(4) ? 7 : 2);
        for (int k = 0; k < shows; k++) {
            put("show", vars.get(upTo(vars.size() - 1)), ";");
        }
        for (String button : names(upTo(large ? 5 : 4))) {
            starts.add(tokens.size());
            put("button", button);
            int conds = vars.isEmpty() || once(2) ? 0 : 1 + upTo(large && once(9) ? 3 : 1);
            for (int k = 0; k < conds; k++) {
                put(k == 0 ? "if" : "and", vars.get(upTo(vars.size() - 1)), "" + "=<>".charAt(upTo(2)), "" + upTo(3));
            }
            deeds(large);
        }
        starts.add(tokens.size());
        if (once(3)) {
            put("after", (once(4) ? "0" : "") + (1 + upTo(large ? 8 : 2)));
            deeds(large);
        }
        put("}");
        starts.add(tokens.size());
    }

    /** The latest APP told in another order: VARS, WINDOWS but for the first, BUTTONS in their WINDOWS. It shows alike. */
    List<String> reordered() {
        List<String> other = new ArrayList<>();
        for (int v : shuffled(0, varStarts.size() - 1)) {
            other.addAll(tokens.subList(varStarts.get(v), varStarts.get(v + 1)));
        }
        addReordered(other, windowStarts.get(0));
        for (int w : shuffled(1, windowStarts.size())) {
            addReordered(other, windowStarts.get(w));
        }
        return other;
    }

    private void addReordered(List<String> other, List<Integer> starts) {
        int tail = starts.size() - 2;
        other.addAll(tokens.subList(starts.get(0), starts.get(1)));
        for (int b : shuffled(1, tail)) {
            other.addAll(tokens.subList(starts.get(b), starts.get(b + 1)));
        }
        other.addAll(tokens.subList(starts.get(tail), starts.get(tail + 1)));
    }

    private List<Integer> shuffled(int from, int end) {
        List<Integer> some = new ArrayList<>();
        for (int k = from; k < end; k++) {
            some.add(k);
        }
        Collections.shuffle(some, random);
        return some;
    }

    private void deeds(boolean large) {
        int deeds = 1 + upTo(large && once(9) ? 4 : 2);
        for (int k = 0; k < deeds; k++) {
            put(k == 0 ? "do" : ",");
            int v = vars.isEmpty() ? -1 : upTo(vars.size() - 1);
            switch (v < 0 ? upTo(4) : upTo(9)) {
                case 0, 1, 2 -> put("open", windows.get(upTo(windows.size() - 1)));
                case 3 -> put("close");
                case 4 -> put(once(2) ? "close" : "fault " + (1 + upTo(once(2) ? 1 : 19)));
                case 5, 6 -> put("set", vars.get(v), "" + upTo(mosts.get(v)));
                default -> put("add", vars.get(v), "" + (1 + upTo(2)));
            }
        }
        put(";");
    }

    /** The same but for a TOKEN left out, put in, changed, or two that changed places. */
    List<String> spoilt(List<String> whole) {
        List<String> other = new ArrayList<>(whole.isEmpty() ? List.of(";") : whole);
        int at = upTo(other.size() - 1);
        switch (upTo(8)) {
            case 0 -> other.remove(at);
            case 1 -> other.add(at, STRAYS[upTo(STRAYS.length - 1)]);
            case 2 -> other.set(at, STRAYS[upTo(STRAYS.length - 1)]);
            case 3 -> other.add(at, other.get(upTo(other.size() - 1)));
            case 4, 5 -> replaceOneLike("[a-z]+", other, NAMES[upTo(NAMES.length - 1)]);
            case 6, 7 -> replaceOneLike("[0-9]+", other, "" + upTo(22));
            default -> other.subList(at, other.size()).clear();
        }
        return other;
    }

    private void replaceOneLike(String form, List<String> some, String by) {
        List<Integer> places = new ArrayList<>();
        for (int k = 0; k < some.size(); k++) {
            if (some.get(k).matches(form)) {
                places.add(k);
            }
        }
        if (!places.isEmpty()) {
            some.set(places.get(upTo(places.size() - 1)), by);
        }
    }

    /** A text that most likely is whole again: one NUMBER or one name of a WINDOW is another one. */
    List<String> changed(List<String> whole) {
        List<String> other = new ArrayList<>(whole);
        for (int k = 0; k < 40; k++) {
            int at = upTo(other.size() - 1);
            String there = other.get(at);
            if (there.length() == 1 && Character.isDigit(there.charAt(0))) {
                other.set(at, "" + Math.max(1, Math.min(9, there.charAt(0) - '0' + (once(2) ? 1 : -1))));
                return other;
            }
            if (at > 0 && other.get(at - 1).equals("open")) {
                other.set(at, windows.get(upTo(windows.size() - 1)));
                return other;
            }
            if (there.equals("close")) {
                other.set(at, "open " + windows.get(upTo(windows.size() - 1)));
                return other;
            }
        }
        return other;
    }

    /** The TOKENS as a text, parted where they must be and now and then where they need not. */
    String text(List<String> some) {
        StringBuilder text = new StringBuilder(once(4) ? "\n " : "");
        for (String token : some) {
            if (text.length() > 0 && (once(4) || touch(text.charAt(text.length() - 1), token.isEmpty() ? ' ' : token.charAt(0)))) {
                text.append(once(5) ? "\n" : " ");
            }
            text.append(token);
        }
        return text.append(once(4) ? "  \n" : "").toString();
    }

    private static boolean touch(char last, char next) {
        return Character.isLetter(last) && Character.isLetter(next) || Character.isDigit(last) && Character.isDigit(next);
    }
}
