import java.util.Arrays;

/** The boundary cases of Terms I and II and of promises 1 to 7, sentence by sentence. */
public final class TextEdgesTest {
    private static final Checks checks = new Checks();
    /** As much of everything as there may be of it, but for what a text of 800 bytes has no room for. */
    private static final String MOST = "var a 9;kept b 9;var c 9;kept d 9;var e 9;kept f 9;"
            + "window a{show a;show b;show c;show d;show e;show f;button a do open h;" + Checks.repeated("button ? do close;", 23).substring(18)
            + "after 9do fault 20;}window b{}window c{}window d{}window e{}window f{}window g{}"
            + "window h{button x if a=0and b<9and f>8do set a 9,set b 8,add f 9,close;after 1do set f 9;}";

    public static void main(String[] args) {
        twoApps();
        mostOfAll();
        tapeOf800();
        blanks();
        words();
        numbers();
        signs();
        parts();
        ends();
        firstFromTheLeft();
        leastOfOnePlace();
        unknownVars();
        twice();
        beyond();
        many();
        manyWhereItMayNotStand();
        opens();
        newObject();
        feed();
        appRefused();
        appOfNone();
        appInPlace();
        appNothingLeft();
        fault();
        where();
        about();
        button();
        checks.end();
    }

    private static void twoApps() {
        checks.about("I: Two APPS, 0 and 1");
        WindowHouse x = new WindowHouse();
        Checks.tell(x, 1, "var v 1;window a{button b do set v 1;}");
        int[] wrong = {-1, 0, 2, 3, Integer.MIN_VALUE, Integer.MAX_VALUE};
        for (int a : wrong) {
            int[] got = {x.about(a, 0), x.button(a, 0, 0), x.state(a, 1), x.var(a, 0), x.can(a, 26)};
            checks.due("none of APP " + a, Arrays.stream(got).allMatch(one -> one == -1), true);
            checks.due("none of them is refused by a number", x.trouble(), 0);
        }
        for (int a : wrong) {
            int[] got = {x.act(a, 26), x.trouble(), x.map(a), x.trouble(), x.tryRow(a), x.trouble(), x.shorter(a), x.trouble()};
            checks.due("refused for APP " + a, Arrays.equals(got, new int[] {-1, 1, -1, 1, -1, 1, -1, 1}), true);
            x.push(0);
            checks.due("begin(" + a + ")", x.begin(a), false);
            checks.troubleIs(x, 1);
        }
        checks.due("about(1, 0)", x.about(1, 0), 1);
        checks.due("act(1, 0)", x.act(1, 0), 1);
        checks.due("var(1, 0)", x.var(1, 0), 1);
        checks.due("map(1)", x.map(1), 2);
        checks.due("apart() of one alone", x.apart(), -1);
        checks.troubleIs(x, 1);
        Checks.tell(x, 0, "window c{}window d{}");
        checks.due("about(0, 0)", x.about(0, 0), 2);
        checks.due("about(1, 0)", x.about(1, 0), 1);
        checks.due("var(1, 0) stays", x.var(1, 0), 1);
    }

    private static void mostOfAll() {
        checks.about("I: 8 WINDOWS, 24 BUTTONS, 6 VARS");
        WindowHouse x = Checks.with(MOST);
        int[] about = {8, 24, 6, 3, 6, 2};
        for (int what = 0; what < 6; what++) {
            checks.due("about(0, " + what + ")", x.about(0, what), about[what]);
        }
        int[] last = {7, 3, 4};
        for (int what = 0; what < 3; what++) {
            checks.due("button(0, 23, " + what + ")", x.button(0, 23, what), last[what]);
        }
        checks.due("the last button of another window", x.can(0, 23), 0);
        checks.due("the last window opens", x.act(0, 0), 1);
        checks.due("state(0, 2)", x.state(0, 2), 7);
        checks.due("all three conds", x.can(0, 23), 0);
        checks.due("the last window's timer", x.act(0, 24), 1);
        checks.due("var(0, 5)", x.var(0, 5), 9);
        checks.due("the last button", x.act(0, 23), 1);
        int[] vars = {9, 8, 0, 0, 0, 8};
        for (int v = 0; v < 6; v++) {
            checks.due("var(0, " + v + ")", x.var(0, v), vars[v]);
        }
        checks.due("state(0, 2)", x.state(0, 2), 0);
        for (int k = 0; k < 9; k++) {
            checks.due("state(0, 3)", x.state(0, 3), k);
            checks.due("wait", x.act(0, 24), 1);
        }
        int[] kept = {0, 8, 0, 0, 0, 8};
        checks.due("state(0, 0)", x.state(0, 0), 20);
        for (int v = 0; v < 6; v++) {
            checks.due("var(0, " + v + ") in a fault", x.var(0, v), kept[v]);
        }
    }

    private static void tapeOf800() {
        checks.about("I: THE TAPE 800 bytes");
        String filled = MOST.substring(0, MOST.length() - 1) + " ".repeat(800 - MOST.length()) + "}";
        WindowHouse x = new WindowHouse();
        Checks.feed(x, filled);
        checks.due("count(3)", x.count(3), 800);
        // a refused feed changes no byte of it
        checks.due("feed beyond 800", x.feed(-1, -1, -1, -1, -1), -1);
        checks.due("count(3)", x.count(3), 800);
        checks.due("app(0, 801)", x.app(0, 801), -1);
        checks.troubleIs(x, 2);
        checks.due("app(0, 800)", x.app(0, 800), 8);
        checks.due("about(0, 1)", x.about(0, 1), 24);
        checks.due("count(3)", x.count(3), 0);
        // the last byte counts: without it the text isn't whole
        Checks.feed(x, filled);
        checks.due("app(0, 799)", x.app(0, 799), -1);
        checks.due("fault()", x.fault(), 1);
        checks.due("where()", x.where(), 799);
        // 800 TOKENS of one byte, the last of which no APP goes on with
        checks.faultIs(1, "window a{}" + " ".repeat(789) + "@;");
        checks.faultIs(1, "window a{" + "\n".repeat(791) + "@");
        checks.faultIs(0, " ".repeat(790) + "window a{}");
        checks.faultIs(1, "@" + "{".repeat(800));
        checks.faultIs(1, "@" + "a".repeat(800));
        checks.faultIs(1, "@" + "9".repeat(800));
    }

    private static void blanks() {
        checks.about("II: blanks, 32, and 10s part TOKENS and mean nothing else");
        String[] tokens = ("var x 9 ; kept y 9 ; window a { show x ; button b if x = 0 and y < 9 do open a , close , set x 1 , add y 1 ; "
                + "after 1 do fault 1 ; }").split(" ");
        for (String between : new String[] {" ", "\n", "  ", "\n\n", " \n \n "}) {
            checks.faultIs(0, String.join(between, tokens));
            checks.faultIs(0, between + String.join(between, tokens) + between);
        }
        // no other byte is a blank, not even those that often are
        for (int sign : new int[] {0, 9, 11, 12, 13, 31, 33, 127, 133, 160, 255}) {
            checks.faultIs(1, "window a@" + (char) sign + "{}");
            checks.faultIs(1, "@" + (char) sign + "window a{}");
            checks.faultIs(1, "window a{}@" + (char) sign);
        }
        // they part what stands together
        checks.faultIs(1, "@wind\now a{}");
        checks.faultIs(1, "window a @b{}");
        checks.faultIs(1, "window a{button b do fault 1 @0;}");
        checks.faultIs(0, "window a{button b do fault 10;}");
        // of none but blanks the end is its place
        checks.faultIs(1, " \n @");
    }

    private static void words() {
        checks.about("II: WORDS of 1 to 8 small letters");
        String[] texts = {"var ? 1;window w{}", "kept ? 1;window w{}", "window ?{}", "window w{button ? do close;}"};
        for (String text : texts) {
            for (String word : new String[] {"a", "z", "az", "abcdefgh", "zyxwvuts", "zzzzzzzz", "aaaaaaaa"}) {
                checks.faultIs(0, text.replace("?", word));
            }
            for (String word : new String[] {"abcdefghi", "zzzzzzzzzz"}) {
                checks.faultIs(1, text.replace("?", "@" + word));
            }
            for (String word : new String[] {"A", "Z", "`", "[", "_", "|", "" + (char) 0xE4}) {
                checks.faultIs(1, text.replace("?", "@" + word));
                checks.faultIs(1, text.replace("?", "a@" + word));
            }
        }
        // names of eight letters that are unlike in one letter alone are two names
        for (int at = 0; at < 8; at++) {
            for (char letter = 'b'; letter <= 'z'; letter++) {
                String other = "aaaaaaaa".substring(0, at) + letter + "aaaaaaaa".substring(at + 1);
                checks.faultIs(0, "window aaaaaaaa{}window " + other + "{}");
                checks.faultIs(2, "var aaaaaaaa 1;window w{show @" + other + ";}");
            }
        }
        // as are those of another length
        for (int length = 1; length < 8; length++) {
            checks.faultIs(0, "window aaaaaaaa{}window " + "a".repeat(length) + "{}");
            checks.faultIs(2, "window w{button b do open @" + "w".repeat(length + 1) + ";}");
        }
    }

    private static void numbers() {
        checks.about("II: NUMBERS of one or two digits");
        for (String number : new String[] {"1", "9", "01", "09"}) {
            checks.faultIs(0, "var x " + number + ";window w{}");
            checks.faultIs(0, "window w{after " + number + " do close;}");
        }
        for (String number : new String[] {"0", "00", "10", "99"}) {
            checks.faultIs(4, "var x @" + number + ";window w{}");
        }
        for (String number : new String[] {"001", "000", "100", "0000000001"}) {
            checks.faultIs(1, "var x @" + number + ";window w{}");
            checks.faultIs(1, "window w{button b do fault @" + number + ";}");
        }
        for (String sign : new String[] {"/", ":", "-1", "+1"}) {
            checks.faultIs(1, "var x @" + sign + ";window w{}");
        }
        checks.faultIs(1, "var x 1@/;window w{}");
        checks.faultIs(1, "var x 1@:window w{}");
        // 9 told with two digits is 9
        WindowHouse x = Checks.with("var x 09;window a{button b do set x 08,add x 01;}");
        x.act(0, 0);
        checks.due("var(0, 0)", x.var(0, 0), 9);
    }

    private static void signs() {
        checks.about("II: single ones of { } ; , = < >");
        for (int sign = 0; sign < 256; sign++) {
            String text = "var x 9;window a{button b if x" + (char) sign + "1 do close;}";
            if ("=<>".indexOf(sign) >= 0) {
                checks.faultIs(0, text);
            } else if (sign >= 'a' && sign <= 'z') {
                checks.faultIs(2, text.replace("if ", "if @"));
            } else {
                // a blank means nothing: the fault is at what stands behind it
                boolean blank = sign == ' ' || sign == '\n';
                checks.faultIs(1, text.replace((char) sign + "1", blank ? (char) sign + "@1" : "@" + (char) sign + "1"));
            }
        }
        // two of them are two TOKENS
        checks.faultIs(1, "var x 9;window a{button b if x=@=1 do close;}");
        checks.faultIs(1, "var x 9;window a{button b if x<@=1 do close;}");
        checks.faultIs(1, "var x 1;@;window a{}");
        checks.faultIs(1, "window a{@{}}");
        checks.faultIs(1, "window a{button b do close,@,close;}");
    }

    private static void parts() {
        checks.about("II: APP, VAR, WINDOW, SHOW, BUTTON, TIMER");
        // none of what may be wanting
        checks.faultIs(0, "window a{}");
        checks.faultIs(0, "var x 1;window a{}");
        checks.faultIs(0, "var x 1;window a{show x;}");
        checks.faultIs(0, "window a{button b do close;}");
        checks.faultIs(0, "window a{after 1 do close;}");
        checks.faultIs(0, "var x 1;window a{show x;after 1 do close;}");
        // at least one WINDOW
        checks.faultIs(1, "var x 1;kept y 1;@");
        checks.faultIs(1, "@");
        // SHOWS, BUTTONS, one TIMER, in this order; VARS ahead of WINDOWS
        checks.faultIs(1, "var x 1;window a{button b do close;@show x;}");
        checks.faultIs(1, "var x 1;window a{after 1 do close;@show x;}");
        checks.faultIs(1, "window a{after 1 do close;@button b do close;}");
        checks.faultIs(1, "window a{after 1 do close;@after 2 do close;}");
        checks.faultIs(1, "window a{}@kept x 1;");
        checks.faultIs(0, "window a{after 1 do close;}window b{after 1 do close;}");
        // a BUTTON has 1 to 3 CONDS behind its if, and 1 to 4 DEEDS
        checks.faultIs(2, "var x 1;window a{button b if @do close;}");
        checks.faultIs(1, "var x 1;window a{button b if @;}");
        checks.faultIs(1, "var x 1;window a{button b if x=1 and @;}");
        checks.faultIs(1, "window a{button b do@;}");
        checks.faultIs(1, "window a{button b@;}");
        checks.faultIs(1, "window a{after 1 do@;}");
        checks.faultIs(1, "window a{after 1@;}");
        checks.faultIs(1, "var x 1;window a{after 1 @if x=1 do close;}");
        checks.faultIs(1, "window a{after @b do close;}");
        for (int many = 1; many <= 4; many++) {
            String deeds = "close" + ",close".repeat(many - 1);
            WindowHouse x = Checks.with("window a{button b do " + deeds + ";after 1 do " + deeds + ";}");
            checks.due("button(0, 0, 2)", x.button(0, 0, 2), many);
        }
        for (int many = 0; many <= 3; many++) {
            String conds = many == 0 ? "" : "if x=0" + " and x=0".repeat(many - 1);
            WindowHouse x = Checks.with("var x 1;window a{button b " + conds + " do close;}");
            checks.due("button(0, 0, 1)", x.button(0, 0, 1), many);
        }
    }

    private static void ends() {
        checks.about("II: FORM: (the end: its place)");
        String[] tokens = ("var x 9 ; kept y 9 ; window a { show x ; button b if x = 0 and y < 9 do open a , close , set x 1 , add y 1 ; "
                + "after 1 do fault 1 ; }").split(" ");
        for (int many = 0; many < tokens.length; many++) {
            String some = String.join(" ", Arrays.copyOf(tokens, many));
            checks.faultIs(1, some + "@");
            checks.faultIs(1, some + " \n @");
        }
    }

    /** Each has one FAULT, at @, in a WINDOW of its own. */
    private static final String[] SPOILT = {
        "", "window p{@;}", "window q{show @none;}", "window r{button b do close;button @b do close;}", "window s{after @0 do close;}",
        "window t{button b do close,close,close,close,@close;}", "window u{button b do open @none;}"};

    private static void firstFromTheLeft() {
        checks.about("II: FAULTS, the first that is met from the left");
        for (int first = 1; first <= 5; first++) {
            checks.faultIs(first, SPOILT[first]);
            for (int second = 1; second <= 6; second++) {
                checks.faultIs(first, SPOILT[first] + SPOILT[second].replace("@", ""));
            }
            // an open of no WINDOW is found behind all others, wherever it stands
            checks.faultIs(first, SPOILT[6].replace("@", "") + SPOILT[first]);
        }
        checks.faultIs(2, SPOILT[6]);
        checks.faultIs(2, SPOILT[6] + "window v{button b do open nil;}");
        // in one VAR: its name, then its number, then the form
        checks.faultIs(3, "var x 1;var @x 0,");
        checks.faultIs(4, "var x 1;var y @0,");
        checks.faultIs(1, "var x 1;var y 1@,");
        // in one COND, in one DEED
        checks.faultIs(2, "var x 1;window a{button b if @y,10");
        checks.faultIs(1, "var x 1;window a{button b if x@,10");
        checks.faultIs(4, "var x 1;window a{button b if x=@10,");
        checks.faultIs(2, "var x 1;window a{button b do set @y 2,");
        checks.faultIs(4, "var x 1;window a{button b do set x @2 2");
        checks.faultIs(1, "var x 1;window a{button b do set x 1 @2");
    }

    private static void leastOfOnePlace() {
        checks.about("II: of one place the least number");
        String three = "var x 1;window a{button b if x=1 and x=1 and x=1 and ";
        checks.faultIs(2, three + "@y=1 do close;}");
        checks.faultIs(2, three + "@do close;}");
        checks.faultIs(1, three + "@=1 do close;}");
        checks.faultIs(1, three + "@1 do close;}");
        checks.faultIs(1, three + "@abcdefghi=1 do close;}");
        checks.faultIs(1, three + "@");
        checks.faultIs(5, three + "@x=1 do close;}");
        checks.faultIs(5, three + "@x");
        String four = "window a{button b do close,close,close,close,";
        checks.faultIs(5, four + "@close;}");
        checks.faultIs(5, four + "@fault");
        checks.faultIs(1, four + "@b");
        checks.faultIs(1, four + "@do");
        checks.faultIs(1, four + "@closes;}");
        checks.faultIs(1, four + "@");
    }

    private static void unknownVars() {
        checks.about("II: 2 a WORD that is no VAR where one is to be; at it");
        // the names of a WINDOW, of a BUTTON and keys are no VARS
        for (String word : new String[] {"a", "b", "y", "xx", "show", "do", "var"}) {
            checks.faultIs(2, "var x 9;window a{show @" + word + ";button b do close;}");
            checks.faultIs(2, "var x 9;window a{button b do close;button c if @" + word + "=1 do close;}");
            checks.faultIs(2, "var x 9;window a{button b if x=1 and @" + word + "=1 do close;}");
            checks.faultIs(2, "var x 9;window a{button b do set @" + word + " 1;}");
            checks.faultIs(2, "var x 9;window a{button b do close;after 1 do close,add @" + word + " 1;}");
        }
        checks.faultIs(2, "window a{show @x;}");
        // what is no WORD is no such one, but FORM
        checks.faultIs(1, "var x 9;window a{show @1;}");
        checks.faultIs(1, "var x 9;window a{show @xxxxxxxxx;}");
        // kept ones are VARS, the sixth is
        checks.faultIs(0, Checks.repeated("kept ? 1;", 6) + "window a{show f;button b if f=1 do set f 1,add f 1;}");
    }

    private static void twice() {
        checks.about("II: 3 TWICE");
        for (String keys : new String[] {"var var", "var kept", "kept var", "kept kept"}) {
            String[] two = keys.split(" ");
            checks.faultIs(3, two[0] + " x 1;" + two[1] + " @x 1;window a{}");
            checks.faultIs(3, two[0] + " x 1;var y 1;" + two[1] + " @x 1;window a{}");
        }
        checks.faultIs(3, Checks.repeated("var ? 1;", 5) + "var @e 1;window a{}");
        checks.faultIs(3, Checks.repeated("window ?{}", 7) + "window @a{}");
        checks.faultIs(3, Checks.repeated("window ?{}", 7) + "window @g{}");
        checks.faultIs(3, "window z{" + Checks.repeated("button ? do close;", 23) + "button @a do close;}");
        checks.faultIs(3, "window z{" + Checks.repeated("button ? do close;", 23) + "button @w do close;}");
        // a BUTTON's in its WINDOW: in another it is fine
        checks.faultIs(0, "window a{button b do close;}window c{button b do close;}window d{button e do close;button b do close;}");
        // one name for a VAR, a WINDOW and a BUTTON is fine
        checks.faultIs(0, "var a 1;window a{show a;button a if a=1 do open a,set a 1;}");
        // the latest at its most: MANY is met ahead of TWICE
        checks.faultIs(5, Checks.repeated("var ? 1;", 6) + "@var a 1;window a{}");
        checks.faultIs(5, Checks.repeated("window ?{}", 8) + "@window a{}");
        checks.faultIs(5, "window a{" + Checks.repeated("button ? do close;", 24) + "@button a do close;}");
    }

    private static void beyondIs(String text, int from, int upTo) {
        for (int number : new int[] {0, 1, from, upTo, upTo + 1, 9, 10, 11, 19, 20, 21, 22, 90, 99}) {
            boolean fits = number >= from && number <= upTo;
            checks.faultIs(fits ? 0 : 4, text.replace("?", (fits ? "" : "@") + number));
        }
    }

    private static void beyond() {
        checks.about("II: 4 a NUMBER beyond what it may be; at it");
        beyondIs("var x ?;window a{}", 1, 9);
        beyondIs("kept x ?;window a{}", 1, 9);
        beyondIs("window a{after ? do close;}", 1, 9);
        for (String sign : new String[] {"=", "<", ">"}) {
            beyondIs("var x 1;window a{button b if x" + sign + "? do close;}", 0, 9);
            beyondIs("var x 1;window a{button b if x=1 and x=1 and x" + sign + "? do close;}", 0, 9);
        }
        for (int most = 1; most <= 9; most++) {
            beyondIs("var y 9;var x " + most + ";var z 9;window a{button b do set x ?;}", 0, most);
            beyondIs("var y 1;kept x " + most + ";var z 1;window a{after 1 do close,set x ?;}", 0, most);
            beyondIs("var x " + most + ";window a{button b do add x ?;}", 1, 9);
        }
        beyondIs("window a{button b do fault ?;}", 1, 20);
        beyondIs("window a{after 1 do close,close,close,fault ?;}", 1, 20);
        // after a set the next DEED's NUMBER has its own bounds
        checks.faultIs(0, "var x 1;window a{button b do set x 0,add x 9,fault 20;}");
        checks.faultIs(4, "var x 1;window a{button b do fault 20,set x @2;}");
    }

    private static void many() {
        checks.about("II: 5 MANY, at its first TOKEN");
        // VARS of both sorts are counted together
        checks.faultIs(0, "var a 1;kept b 1;var c 1;kept d 1;var e 1;kept f 1;window a{}");
        checks.faultIs(5, "var a 1;kept b 1;var c 1;kept d 1;var e 1;kept f 1;@var g 1;window a{}");
        checks.faultIs(5, "var a 1;kept b 1;var c 1;kept d 1;var e 1;kept f 1;@kept g 1;window a{}");
        checks.faultIs(5, Checks.repeated("var ? 1;", 6) + "@kept");
        checks.faultIs(0, Checks.repeated("window ?{}", 8));
        checks.faultIs(5, Checks.repeated("window ?{}", 8) + "@window");
        // BUTTONS over all WINDOWS
        String three = "{button a do close;button b do close;button c do close;}";
        String all = Checks.repeated("window ?" + three, 8);
        checks.faultIs(0, all);
        checks.faultIs(5, all.substring(0, all.length() - 1) + "@button d do close;}");
        checks.faultIs(5, Checks.repeated("window ?" + three, 7) + "window h{" + Checks.repeated("button ? do close;", 3) + "@button");
        // SHOWS of a WINDOW, each six
        String six = "{show x;show y;show x;show y;show x;show x;";
        checks.faultIs(0, "var x 1;var y 1;" + Checks.repeated("window ?" + six + "}", 8));
        checks.faultIs(5, "var x 1;var y 1;window a" + six + "@show x;}");
        checks.faultIs(5, "var x 1;var y 1;window a" + six + "}window b" + six + "@show");
        // CONDS of a BUTTON, each three
        String conds = "if x=0 and x=0 and x=0 ";
        checks.faultIs(0, "var x 1;window a{" + Checks.repeated("button ? " + conds + "do close;", 9) + "}");
        checks.faultIs(5, "var x 1;window a{button b " + conds + "and @x=0 do close;}");
        checks.faultIs(5, "var x 1;window a{button b " + conds + "do close;button c " + conds + "and @x=0 do close;}");
        // DEEDS of a BUTTON, of a TIMER, each four, of any sort
        String four = "do open a,set x 1,add x 1,fault 1";
        checks.faultIs(0, "var x 1;window a{button b " + four + ";button c " + four + ";after 1 " + four + ";}window c{after 1 " + four + ";}");
        for (String fifth : new String[] {"open a", "close", "set x 1", "add x 1", "fault 1"}) {
            checks.faultIs(5, "var x 1;window a{button b " + four + ",@" + fifth + ";}");
            checks.faultIs(5, "var x 1;window a{button b " + four + ";after 1 " + four + ",@" + fifth + ";}");
        }
    }

    private static void manyWhereItMayNotStand() {
        checks.about("II: MANY: if that may stand there (else 1)");
        String vars = Checks.repeated("var ? 1;", 6);
        checks.faultIs(1, vars + "window a{}@var g 1;");
        checks.faultIs(1, vars + "window a{@var g 1;}");
        checks.faultIs(1, vars.substring(0, vars.length() - 1) + "@var g 1;");
        String windows = Checks.repeated("window ?{}", 8);
        checks.faultIs(1, windows.substring(0, windows.length() - 1) + "@window i{}");
        checks.faultIs(1, windows + "@windows i{}");
        String buttons = "window a{" + Checks.repeated("button ? do close;", 24);
        checks.faultIs(1, buttons + "}@button y do close;");
        checks.faultIs(1, buttons + "after 1 do close;@button y do close;}");
        checks.faultIs(1, buttons.substring(0, buttons.length() - 1) + " @button y do close;}");
        String shows = "var x 1;window a{" + "show x;".repeat(6);
        checks.faultIs(1, shows + "button b do close;@show x;}");
        checks.faultIs(1, shows + "after 1 do close;@show x;}");
        checks.faultIs(1, shows + "}@show x;");
        checks.faultIs(1, shows.substring(0, shows.length() - 1) + " @show x;}");
        String conds = "var x 1;window a{button b if x=0 and x=0 and x=0 ";
        checks.faultIs(1, conds + "@x=0 do close;}");
        checks.faultIs(1, conds + "do @x=0;}");
        checks.faultIs(1, "window a{button b do close,close,close,close @close;}");
        checks.faultIs(1, "window a{button b do close,close,close,close;@close;}");
    }

    private static void opens() {
        checks.about("II: Behind a whole text the first WORD behind an open that is no WINDOW: 2");
        checks.faultIs(0, "window a{button b do open a,open b;}window b{button b do open a,open c;after 1 do open d;}window c{}window d{}");
        checks.faultIs(2, "window a{button b do open @z,open y;}");
        checks.faultIs(2, "window a{after 1 do open a,open @z;}window b{button b do open y;}");
        checks.faultIs(2, "window a{button b do open a;}window b{button b do open b;}window c{after 9 do close,close,close,open @z;}");
        // not a VAR's name nor a BUTTON's, nor a part of a WINDOW's name, nor one of a former APP
        checks.faultIs(2, "var v 1;window a{button b do open @v;}");
        checks.faultIs(2, "window a{button b do open @b;}");
        checks.faultIs(2, "window ab{button b do open @a;}");
        WindowHouse x = Checks.with("window a{}window b{}");
        for (int k = 0; k < 4; k++) {
            checks.due("tell", Checks.tell(x, 0, "window a{button c do open b;}"), -1);
            checks.due("fault()", x.fault(), 2);
            checks.due("where()", x.where(), 26);
        }
        // as many as there can be of them: all are found
        String four = "do open h,open h,open h,open b;";
        String all = "window a{" + Checks.repeated("button ? " + four, 12) + "after 1 " + four + "}window b{after 1 do open h;}window h{}";
        x = Checks.with(all);
        x.act(0, 11);
        checks.due("state(0, 2)", x.state(0, 2), 1);
        checks.due("state(0, 1)", x.state(0, 1), 5);
        checks.faultIs(2, all.replace("open h;}", "open @g;}"));
    }

    private static void newObject() {
        checks.about("1: No APPS, no MAP, an empty ROW");
        WindowHouse x = new WindowHouse();
        for (int a = 0; a < 2; a++) {
            for (int what = 0; what < 6; what++) {
                checks.due("about", x.about(a, what), -1);
                checks.due("state", x.state(a, what), -1);
                checks.due("button", x.button(a, 0, what), -1);
                checks.due("var", x.var(a, what), -1);
                checks.due("met", x.met(0, what), -1);
                checks.due("leads", x.leads(a, what), -1);
            }
        }
        int[] counts = {0, -1, 0, 0, 0, -1};
        for (int what = 0; what < 6; what++) {
            checks.due("count(" + what + ")", x.count(what), counts[what]);
        }
        int[] fresh = {x.trouble(), x.fault(), x.where(), x.tried()};
        checks.due("trouble, fault, where, tried", Arrays.equals(fresh, new int[] {0, 0, -1, -1}), true);
        checks.due("cut(0) of an empty row", x.cut(0), true);
        checks.due("cut(1) of an empty row", x.cut(1), false);
        checks.rowIs(x);
        int[] byMap = {x.rowTo(0), x.faultAt(1), x.pressedAt(0), x.never(), x.holdsAt(0, 0), x.stuck(0), x.least(), x.views(), x.farthest(), x.ways()};
        checks.due("without a map", Arrays.stream(byMap).allMatch(one -> one == -1), true);
        checks.troubleIs(x, 6);
        checks.due("apart()", x.apart(), -1);
        checks.troubleIs(x, 1);
        checks.due("push(0)", x.push(0), 1);
        // two objects have nothing in common
        WindowHouse y = new WindowHouse();
        checks.due("count(2) of another", y.count(2), 0);
        Checks.tell(x, 0, "window a{}");
        checks.due("about(0, 0) of another", y.about(0, 0), -1);
    }

    private static void feed() {
        checks.about("2: Twenty bytes come behind THE TAPE, of each number the highest first; NONE if more than 800");
        WindowHouse x = new WindowHouse();
        checks.due("feed", x.feed(0x77696E64, 0x6F772061, 0x7B627574, 0x746F6E20, 0x6220646F), 20);
        checks.due("feed", x.feed(0x20666175, 0x6C742031, 0x323B7D20, 0x20202020, 0x20202020), 40);
        checks.due("window a{button b do fault 12;}", x.app(0, 40), 1);
        x.act(0, 0);
        checks.due("state(0, 0)", x.state(0, 0), 12);
        // each byte has its place: one that begins no TOKEN is found where it was put
        for (int at = 0; at < 20; at++) {
            for (int sign : new int[] {0, 1, 127, 128, 200, 255}) {
                int[] five = {0x20202020, 0x20202020, 0x20202020, 0x20202020, 0x20202020};
                int shift = 24 - 8 * (at % 4);
                five[at / 4] = five[at / 4] & ~(255 << shift) | sign << shift;
                x = new WindowHouse();
                checks.due("feed", x.feed(five[0], five[1], five[2], five[3], five[4]), 20);
                checks.due("app", x.app(0, 20), -1);
                checks.due("where() of the byte " + sign, x.where(), at);
            }
        }
        x = new WindowHouse();
        for (int k = 1; k <= 40; k++) {
            checks.due("feed", x.feed(k, k, k, k, k), 20 * k);
            checks.due("count(3)", x.count(3), 20 * k);
        }
        for (int k = 0; k < 3; k++) {
            checks.due("feed beyond 800", x.feed(k, k, k, k, k), -1);
            checks.due("count(3)", x.count(3), 800);
        }
        checks.troubleIs(x, 0);
    }

    private static void appRefused() {
        checks.about("3: NONE: 1; 2 (THE TAPE stays); 3 (the former one stays)");
        WindowHouse x = Checks.with("var v 2;window a{button b do add v 1;}");
        x.act(0, 0);
        x.map(0);
        Checks.feed(x, "window c{}window d{};");
        int[][] wrong = {{-1, 20, 1}, {2, 20, 1}, {Integer.MIN_VALUE, 0, 1}, {Integer.MAX_VALUE, 20, 1}, {-1, -1, 1}, {2, 41, 1},
            {0, -1, 2}, {0, 41, 2}, {1, 41, 2}, {1, 800, 2}, {0, Integer.MIN_VALUE, 2}, {1, Integer.MAX_VALUE, 2}};
        for (int[] row : wrong) {
            checks.due("app(" + row[0] + ", " + row[1] + ")", x.app(row[0], row[1]), -1);
            checks.troubleIs(x, row[2]);
            checks.due("count(3)", x.count(3), 40);
            checks.due("fault()", x.fault(), 0);
            checks.due("where()", x.where(), -1);
            checks.due("count(0): the map stays", x.count(0), 3);
        }
        checks.due("app(0, 40)", x.app(0, 40), -1);
        checks.troubleIs(x, 3);
        checks.due("count(3): it is empty then", x.count(3), 0);
        checks.due("about(0, 1): the former one stays", x.about(0, 1), 1);
        checks.due("var(0, 0): its state too", x.var(0, 0), 1);
        checks.due("count(0): its map too", x.count(0), 3);
        checks.due("count(1)", x.count(1), 0);
        checks.due("farthest()", x.farthest(), 2);
        checks.due("act(0, 0)", x.act(0, 0), 1);
        checks.due("var(0, 0)", x.var(0, 0), 2);
        // where none was, none is
        checks.due("app(1, 0)", x.app(1, 0), -1);
        checks.troubleIs(x, 3);
        checks.due("about(1, 0)", x.about(1, 0), -1);
        checks.due("act(1, 26)", x.act(1, 26), -1);
        checks.troubleIs(x, 1);
    }

    private static void appOfNone() {
        checks.about("3: The first n bytes of THE TAPE");
        WindowHouse x = new WindowHouse();
        checks.due("app(0, 0)", x.app(0, 0), -1);
        checks.troubleIs(x, 3);
        checks.due("fault()", x.fault(), 1);
        checks.due("where()", x.where(), 0);
        checks.due("app(0, 1)", x.app(0, 1), -1);
        checks.troubleIs(x, 2);
        String text = "window a{}window b{}window c{}";
        int[] windows = {10, 20, 30};
        for (int n = 0; n <= 40; n++) {
            Checks.feed(x, text);
            int whole = Arrays.binarySearch(windows, Math.min(n, 30)) + 1;
            checks.due("app(0, " + n + ")", x.app(0, n), whole > 0 ? whole : -1);
            checks.due("count(3)", x.count(3), 0);
            x = new WindowHouse();
        }
        // what a former text left behind on the tape is no part of a later one
        Checks.tell(x, 0, "window a{}window b{}");
        Checks.feed(x, "window c{}");
        checks.due("app(0, 21)", x.app(0, 21), -1);
        checks.troubleIs(x, 2);
        checks.due("app(0, 20)", x.app(0, 20), 1);
    }

    private static void appInPlace() {
        checks.about("3: in place of the former one; its STATE by hand is the BEGINNING; no MAP was made of it");
        String counter = "kept v 3;window a{button b do add v 1;after 3 do close;}";
        WindowHouse x = Checks.beside(counter, counter);
        for (int a = 0; a < 2; a++) {
            x.act(a, 0);
            x.act(a, 24);
        }
        x.map(1);
        x.push(5);
        checks.due("tell the same", Checks.tell(x, 0, counter), 1);
        checks.due("var(0, 0), though kept", x.var(0, 0), 0);
        checks.due("state(0, 3)", x.state(0, 3), 0);
        checks.due("var(1, 0)", x.var(1, 0), 1);
        checks.due("state(1, 3)", x.state(1, 3), 1);
        checks.due("count(1): the map of the other stays", x.count(1), 1);
        checks.due("count(0)", x.count(0), 4 * 3);
        checks.due("farthest()", x.farthest(), 3 + 2);
        checks.due("tell the same", Checks.tell(x, 1, counter), 1);
        checks.due("count(0)", x.count(0), 0);
        checks.due("count(1)", x.count(1), -1);
        checks.due("never()", x.never(), -1);
        checks.troubleIs(x, 6);
        checks.due("met(0, 0)", x.met(0, 0), -1);
        checks.due("leads(0, 26)", x.leads(0, 26), -1);
        checks.rowIs(x, 5);
    }

    private static void appNothingLeft() {
        checks.about("3: of the former one nothing is left");
        String timed = "var x 9;window a{show x;button b if x=0 and x<9 do add x 1,add x 1,add x 1,add x 1;after 1 do add x 1,add x 1,add x 1,add x 1;}"
                + "window c{after 2 do add x 9,add x 9,add x 9;}";
        String plain = "var y 9;window c{button e do add y 1;after 2 do add y 1;}window a{after 3 do add y 5;}";
        WindowHouse x = new WindowHouse();
        for (int k = 0; k < 5; k++) {
            int a = k % 2;
            checks.due("tell", Checks.tell(x, a, timed), 2);
            checks.due("tell", Checks.tell(x, a, plain), 2);
            int[] about = {2, 1, 1, 0, 0, 2};
            for (int what = 0; what < 6; what++) {
                checks.due("about(a, " + what + ")", x.about(a, what), about[what]);
            }
            checks.due("button(a, 0, 1)", x.button(a, 0, 1), 0);
            checks.due("button(a, 0, 2)", x.button(a, 0, 2), 1);
            x.act(a, 0);
            checks.due("var(a, 0)", x.var(a, 0), 1);
            x.act(a, 24);
            checks.due("state(a, 3)", x.state(a, 3), 1);
            x.act(a, 24);
            checks.due("var(a, 0)", x.var(a, 0), 2);
            x.act(a, 26);
            checks.due("var(a, 0)", x.var(a, 0), 0);
            checks.due("map(a)", x.map(a), 20);
            checks.due("views()", x.views(), 1);
        }
    }

    private static void fault() {
        checks.about("4: The FAULT of the latest app() not refused by 1, 2; 0 without one");
        WindowHouse x = new WindowHouse();
        checks.due("fault() ahead of any", x.fault(), 0);
        x.app(2, 0);
        x.app(0, 1);
        checks.due("fault()", x.fault(), 0);
        for (int number = 1; number <= 5; number++) {
            Checks.tell(x, number % 2, SPOILT[number].replace("@", ""));
            checks.due("fault()", x.fault(), number);
            x.app(2, 0);
            checks.due("fault() behind one refused by 1", x.fault(), number);
            x.app(0, 1);
            checks.due("fault() behind one refused by 2", x.fault(), number);
            x.push(0);
            x.apart();
            checks.due("fault() behind other calls", x.fault(), number);
        }
        Checks.tell(x, 0, "window a{}");
        checks.due("fault()", x.fault(), 0);
        x.app(-1, 0);
        checks.due("fault()", x.fault(), 0);
    }

    private static void where() {
        checks.about("5: Its place, if the latest call that may be refused was by 3; NONE else");
        WindowHouse x = Checks.beside("window a{}", "window a{}");
        x.map(0);
        Runnable[] calls = {
            () -> x.app(2, 0), () -> x.app(0, 1), () -> x.act(0, 26), () -> x.act(0, 0), () -> x.act(0, 27), () -> x.begin(0), () -> x.begin(5),
            () -> x.map(0), () -> x.map(5), () -> x.rowTo(0), () -> x.rowTo(9), () -> x.faultAt(1), () -> x.faultAt(0), () -> x.pressedAt(0),
            () -> x.never(), () -> x.holdsAt(0, 0), () -> x.stuck(0), () -> x.least(), () -> x.views(), () -> x.farthest(), () -> x.ways(),
            () -> x.push(0), () -> x.push(27), () -> x.cut(0), () -> x.cut(9), () -> x.tryRow(0), () -> x.tryRow(5), () -> x.shorter(0), () -> x.apart()};
        for (int k = 0; k < calls.length; k++) {
            Checks.tell(x, 1, "window a{;");
            checks.due("where()", x.where(), 9);
            calls[k].run();
            checks.due("where() behind call " + k, x.where(), -1);
            checks.due("fault() behind call " + k, x.fault(), 1);
        }
        // calls that may not be refused leave it
        Checks.tell(x, 0, "  @");
        int[] quiet = {x.fault(), x.where(), x.about(9, 0), x.button(0, 9, 0), x.state(0, 9), x.var(0, 9), x.can(0, 99), x.met(0, 0), x.leads(0, 0),
            x.tried(), x.count(9), x.trouble(), x.feed(0, 0, 0, 0, 0), Checks.rowAt(x, 9)};
        checks.due("where() behind " + quiet.length + " quiet calls", x.where(), 2);
        checks.troubleIs(x, 3);
        checks.due("app(0, 20)", x.app(0, 20), -1);
        checks.due("where() of the latest", x.where(), 0);
    }

    private static void about() {
        checks.about("6: Of an APP what 0 .. 5; NONE");
        WindowHouse x = Checks.with(MOST);
        for (int what : new int[] {-1, 6, 7, Integer.MIN_VALUE, Integer.MAX_VALUE}) {
            checks.due("about(0, " + what + ")", x.about(0, what), -1);
        }
        Checks.tell(x, 0, "window a{}");
        int[] least = {1, 0, 0, 0, 0, 0};
        for (int what = 0; what < 6; what++) {
            checks.due("about(0, " + what + ")", x.about(0, what), least[what]);
        }
        Checks.tell(x, 0, "var x 1;" + Checks.repeated("window ?{" + "show x;".repeat(6) + "after 1 do close;}", 8));
        int[] shows = {8, 0, 1, 0, 48, 8};
        for (int what = 0; what < 6; what++) {
            checks.due("about(0, " + what + ")", x.about(0, what), shows[what]);
        }
        Checks.tell(x, 0, Checks.repeated("kept ? 1;", 6) + "window a{}");
        checks.due("about(0, 2)", x.about(0, 2), 6);
        checks.due("about(0, 3): all are kept", x.about(0, 3), 6);
    }

    private static void button() {
        checks.about("7: Of BUTTON b of an APP, what 0 .. 2; NONE");
        WindowHouse x = Checks.with(MOST);
        for (int b : new int[] {-1, 24, 25, Integer.MIN_VALUE, Integer.MAX_VALUE}) {
            for (int what = -1; what < 4; what++) {
                checks.due("button(0, " + b + ", " + what + ")", x.button(0, b, what), -1);
            }
        }
        for (int b = 0; b < 24; b++) {
            checks.due("button(0, " + b + ", 0)", x.button(0, b, 0), b < 23 ? 0 : 7);
            checks.due("button(0, " + b + ", 1)", x.button(0, b, 1), b < 23 ? 0 : 3);
            checks.due("button(0, " + b + ", 2)", x.button(0, b, 2), b < 23 ? 1 : 4);
            for (int what : new int[] {-1, 3, Integer.MIN_VALUE, Integer.MAX_VALUE}) {
                checks.due("button(0, " + b + ", " + what + ")", x.button(0, b, what), -1);
            }
        }
        Checks.tell(x, 0, "window a{after 1 do close;}");
        checks.due("button(0, 0, 0) of none", x.button(0, 0, 0), -1);
        checks.due("button(0, 24, 2): a timer is no button", x.button(0, 24, 2), -1);
    }
}
