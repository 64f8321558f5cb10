import java.util.function.Function;
import java.util.function.IntSupplier;

/** The boundary cases of promises 32 to 34, sentence by sentence, and of all calls together. */
public final class PairEdgesTest {
    private static final Checks checks = new Checks();
    /**
     * STATE k is the number k told by c, b and a; from each but the last one BUTTON leads to the next.
     * What stands for # is done on the last of these ways, what stands for ! is a BUTTON of the last STATE.
     */
    private static final String CHAIN = "var a 9;var b 9;var c 3;window w{button n if a<8 do add a 1;button q if a=8 and b<9 do add a 1;"
            + "button r if a=8 and b=9 and c<3 do add a 1;button p if a=8 and b=9 and c=3 do add a 1#;button m if a=9 and b<9 do add a 1,add b 1;"
            + "button o if a=9 and b=9 and c<3 do add a 1,add b 1,add c 1;!}";

    public static void main(String[] args) {
        refusedByOne();
        alike();
        unlikeAtFirst();
        unlikeShown();
        unlikeButtons();
        unlikeFaults();
        aloneInOne();
        firstMet();
        byNames();
        rowOf400();
        rowOf399();
        pairsOf400();
        pairsOf401();
        count();
        trouble();
        quietCalls();
        calls512();
        sameAnswers();
        checks.end();
    }

    private static String chain(String last, String button) {
        return CHAIN.replace("#", last).replace("!", button);
    }

    /** The ACT that leads from STATE k of CHAIN to the next. */
    private static int step(int k) {
        if (k == 398) {
            return 3;
        }
        if (k % 10 == 8) {
            return k % 100 == 98 ? 2 : 1;
        }
        return k % 100 == 99 ? 5 : k % 10 == 9 ? 4 : 0;
    }

    private static void refusedByOne() {
        checks.about("32: NONE: 1 (there aren't both)");
        WindowHouse x = new WindowHouse();
        x.push(9);
        checks.due("apart() of none", x.apart(), -1);
        checks.troubleIs(x, 1);
        for (int a = 0; a < 2; a++) {
            x = new WindowHouse();
            x.push(9);
            Checks.tell(x, a, "window a{}");
            checks.due("apart() of one", x.apart(), -1);
            checks.troubleIs(x, 1);
            // a text with a FAULT makes no second one
            Checks.tell(x, 1 - a, "window a{");
            checks.due("apart() of one", x.apart(), -1);
            checks.troubleIs(x, 1);
            checks.due("count(4)", x.count(4), 0);
            checks.rowIs(x, 9);
            Checks.tell(x, 1 - a, "window a{}");
            checks.due("apart() of both", x.apart(), -2);
            checks.troubleIs(x, 0);
            // nor does it take one away
            Checks.tell(x, a, "window a{");
            checks.due("apart() of both", x.apart(), -2);
        }
    }

    private static void alike() {
        checks.about("32: -2, and THE ROW stays, if there is none");
        String[] texts = {"window a{}", "var v 9;window a{show v;button n do add v 1;}", "window a{button o do open a;after 2 do close;}",
            "kept k 2;window a{show k;button n do add k 1;button f do fault 20;}", "window a{button f do fault 1;after 1 do fault 2;}", chain("", "")};
        for (String text : texts) {
            WindowHouse x = Checks.with(text);
            checks.alikeAre(text, text, x.map(0));
        }
        // neither the MAP nor the STATES by hand are touched
        WindowHouse x = Checks.beside(texts[1], texts[1]);
        x.act(0, 0);
        x.map(1);
        checks.due("apart()", x.apart(), -2);
        checks.due("var(0, 0)", x.var(0, 0), 1);
        checks.due("var(1, 0)", x.var(1, 0), 0);
        checks.due("count(0)", x.count(0), 10);
        checks.due("count(1)", x.count(1), 1);
        // unlike in what is not seen: VARS, TICKS that come to nothing, WINDOWS that never open, BUTTONS that never can be pressed
        checks.alikeAre("window a{button b do close;}", "var v 1;kept k 1;window a{button b do set v 1,set k 1;}", 3);
        checks.alikeAre("window a{}", "window a{after 3 do close;}", 3);
        checks.alikeAre("window a{}window b{button c do fault 1;}", "window a{}", 1);
        checks.alikeAre("var v 1;window a{button b if v=1 do fault 1;}", "window a{}", 1);
    }

    private static void unlikeAtFirst() {
        checks.about("32: (no ACT, if they do at first)");
        checks.apartIs("window a{}", "window b{}", 1);
        checks.apartIs("window abcdefgh{}", "window abcdefgi{}", 1);
        checks.apartIs("window abcdefgh{}", "window cbcdefgh{}", 1);
        checks.apartIs("window a{}", "window aa{}", 1);
        checks.apartIs("window a{}window b{}", "window b{}window a{}", 1);
        checks.apartIs("window a{button b do close;}", "window a{button abcdefgh do close;}", 1);
    }

    private static void unlikeShown() {
        checks.about("IV: They show unlike where VIEWS are unlike: other shown numbers");
        String shows = "var x 1;var y 2;window a{%sbutton b do set y 2;}";
        String[] sorts = {"", "show x;", "show y;", "show x;show x;", "show x;show y;", "show y;show x;", "show x;show x;show x;show x;show x;show x;"};
        int[] many = {0, 1, 1, 2, 2, 2, 6};
        for (int one = 0; one < sorts.length; one++) {
            for (int other = 0; other < sorts.length; other++) {
                String first = String.format(shows, sorts[one]);
                String second = String.format(shows, sorts[other]);
                if (many[one] != many[other]) {
                    checks.apartIs(first, second, 1);
                } else if (one != other) {
                    // all are 0 at first, then x is 0 and y is 2
                    checks.apartIs(first, second, 2, 0);
                } else {
                    checks.alikeAre(first, second, 2);
                }
            }
        }
        // the numbers, not the names, nor how far a VAR goes
        checks.alikeAre("var x 9;window a{show x;button b do set x 9;}", "kept y 1;var z 9;window a{show z;button b do set z 9;}", 2);
        checks.apartIs("var x 9;window a{show x;button b do set x 9;}", "var x 9;window a{show x;button b do set x 8;}", 2, 0);
        checks.apartIs("var x 9;window a{show x;button n do add x 1;}", "var x 8;window a{show x;button n do add x 1;}", 10, 0, 0, 0, 0, 0, 0, 0, 0, 0);
    }

    private static void unlikeButtons() {
        checks.about("IV: or BUTTONS of other names that can be pressed");
        checks.apartIs("window a{button b do close;}", "window a{}", 1);
        checks.apartIs("window a{}", "window a{button b do close;}", 1);
        checks.apartIs("window a{button b do close;button c do close;}", "window a{button b do close;}", 1);
        checks.apartIs("window a{button b do close;}", "window a{button b do close;button c do close;}", 1);
        checks.apartIs("window a{button b do close;button c do close;}", "window a{button b do close;button d do close;}", 1);
        // told in another order they are of the same names
        checks.alikeAre("window a{button b do close;button c do close;}", "window a{button c do close;button b do close;}", 1);
        // one that can be pressed no more
        checks.apartIs("var v 1;window a{button b if v=0 do set v 1;}", "var v 1;window a{button b do set v 1;}", 2, 0);
        checks.apartIs("var v 1;window a{button b do set v 1;}", "var v 1;window a{button b if v=0 do set v 1;}", 2, 0);
        // the last of 24
        String all = "window a{" + Checks.repeated("button ? do close;", 23);
        checks.apartIs(all + "button z do fault 1;}", all + "button z do fault 2;}", 2, 23);
        checks.apartIs(all + "button z do close;}", all + "button y do close;}", 1);
    }

    private static void unlikeFaults() {
        checks.about("IV: of another FAULT");
        checks.apartIs("window a{button b do fault 1;}", "window a{button b do fault 20;}", 2, 0);
        checks.apartIs("window a{button b do fault 1;}", "window a{button b do close;}", 2, 0);
        checks.apartIs("window a{button b do close;}", "window a{button b do fault 1;}", 2, 0);
        checks.apartIs("window a{after 1 do fault 5;}", "window a{after 1 do fault 6;}", 2, 24);
        // one FAULT, unlike by what is kept, shows alike until TORN
        checks.apartIs("kept k 1;window a{show k;button b do set k 1,fault 1;}", "kept k 1;window a{show k;button b do fault 1;}", 3, 0, 26);
        checks.alikeAre("kept k 1;window a{button b do set k 1,fault 1;}", "kept k 1;window a{button b do fault 1;}", 3);
        // the number of the FAULT and no WINDOW, not that of a WINDOW
        checks.alikeAre("window a{button b do fault 3;}", "window a{button b do fault 3;}window c{}", 2);
    }

    private static void aloneInOne() {
        checks.about("32: or whose last ACT is possible in one alone; that last one, if it is APP 1's alone, 100 more");
        String one = "window a{button b do close;}";
        String two = "window a{button b do open a;}";
        checks.apartIs(two, one, 3, 0, 25);
        checks.apartIs(one, two, 3, 0, 125);
        // three and two of the same WINDOW look alike, and both have a way BACK; it ends sooner in one
        checks.apartIs("window a{button o do open a,open a;}", "window a{button o do open a;}", 6, 0, 25, 25);
        checks.apartIs("window a{button o do open a;}", "window a{button o do open a,open a;}", 6, 0, 25, 125);
        // WAIT and TORN are possible in both, but in a FAULT
        checks.apartIs("window a{after 1 do fault 1;}", "window a{}", 2, 24);
        // it is left out when the row is tried, as one that no APP has
        WindowHouse x = Checks.beside(one, two);
        x.apart();
        checks.due("tryRow(0)", x.tryRow(0), 0);
        checks.due("tried()", x.tried(), 2);
        checks.due("push(24) behind it", x.push(24), 3);
        checks.rowIs(x, 0, 125, 24);
        checks.due("cut(1)", x.cut(1), true);
        checks.rowIs(x, 0);
    }

    private static void firstMet() {
        checks.about("32: The first row met: of each pair the ACTS of APP 0 by number, then those of APP 1");
        // both b and c show unlike: b is met first, though c is first in APP 1
        checks.apartIs("window a{button b do fault 1;button c do fault 2;}", "window a{button c do fault 3;button b do fault 4;}", 2, 0);
        // a BUTTON ahead of WAIT, WAIT ahead of BACK, BACK ahead of TORN
        checks.apartIs("window a{button b do fault 1;after 1 do fault 1;}", "window a{button b do fault 2;after 1 do fault 2;}", 2, 0);
        checks.apartIs("window a{button b do open a;after 2 do fault 1;}", "window a{button b do close;after 2 do fault 2;}", 5, 0, 25);
        checks.apartIs("var x 1;kept y 1;window a{show x;show y;button b do set x 1,set y 1,open a;}", "kept x 1;var y 1;window a{show x;show y;button b do set x 1,set y 1;}",
                3, 0, 25);
        // TORN of APP 0 ahead of BACK of APP 1 alone
        checks.apartIs("kept x 1;window a{show x;button b do set x 1;}", "var x 1;window a{show x;button b do set x 1,open a;}", 4, 0, 26);
        // of the pair met first, though another is as near
        checks.apartIs("var v 2;window a{button b if v=0 do set v 1;button c if v=0 do set v 2;button d if v=2 do fault 1;button e if v=1 do fault 1;}",
                "var v 2;window a{button b if v=0 do set v 1;button c if v=0 do set v 2;button d if v=2 do fault 2;button e if v=1 do fault 2;}", 4, 0, 3);
        // a pair is two STATES: each of them may be met again
        checks.apartIs("var v 1;window a{button b do add v 1;}", "var v 2;window a{button b do add v 1;button c if v>1 do close;}", 3, 0, 0);
    }

    private static void byNames() {
        checks.about("IV: rows of ACTS that are told by names; 32: by ACTS of APP 0");
        checks.apartIs("window a{button x do close;button y do close;button z do open b;}window b{button u do close;button v do fault 1;}",
                "window a{button z do open c;button y do close;button x do close;}window c{}window b{button v do fault 2;button u do close;}", 2, 2);
        checks.apartIs("window a{button x do close;button y do close;button z do open b;}window b{button u do close;button v do fault 1;}",
                "window a{button z do open b;button y do close;button x do close;}window c{}window b{button v do fault 2;button u do close;}", 3, 2, 4);
        // the BUTTON of that name in the topmost WINDOW, not in another
        checks.alikeAre("window a{button x do open b;}window b{button x do fault 1;}",
                "window a{button x do open b;}window c{button x do fault 2;}window b{button x do fault 1;}", 3);
    }

    private static void rowOf400() {
        checks.about("I: ROWS of 400 acts; 32: the last ACT is the 400th");
        for (int alone = 0; alone < 2; alone++) {
            WindowHouse x = Checks.beside(chain(alone == 0 ? ",open w" : "", ""), chain(alone == 1 ? ",open w" : "", ""));
            checks.due("apart()", x.apart(), 400);
            checks.troubleIs(x, 0);
            checks.due("count(2)", x.count(2), 400);
            checks.due("count(4)", x.count(4), 400);
            for (int k = 0; k < 399; k++) {
                checks.due("row(" + k + ")", Checks.rowAt(x, k), step(k));
            }
            checks.due("row(399)", Checks.rowAt(x, 399), alone == 0 ? 25 : 125);
            checks.due("row(400)", Checks.rowAt(x, 400), Integer.MIN_VALUE);
            checks.due("push(0)", x.push(0), -1);
            checks.troubleIs(x, 4);
            checks.due("tryRow(1)", x.tryRow(1), 0);
            checks.due("tried()", x.tried(), 400);
        }
    }

    private static void rowOf399() {
        checks.about("32: the 400th pair shows unlike");
        WindowHouse x = Checks.beside(chain(",fault 1", ""), chain(",fault 2", ""));
        checks.due("apart()", x.apart(), 399);
        checks.troubleIs(x, 0);
        checks.due("count(2)", x.count(2), 399);
        checks.due("count(4)", x.count(4), 400);
        checks.due("row(398)", Checks.rowAt(x, 398), 3);
        checks.due("tryRow(0)", x.tryRow(0), 1);
        checks.due("tryRow(1)", x.tryRow(1), 2);
        checks.due("shorter(0): none can go", x.shorter(0), 399);
    }

    private static void pairsOf400() {
        checks.about("32: 400 pairs");
        checks.alikeAre(chain("", ""), chain("", ""), 400);
        // both have few STATES, but many together: 20 by 20, none of which is seen
        String first = "var a 3;var b 4;window w{button a do add a 1;button b do add b 1;}";
        String second = "var a 4;var b 3;window w{button a do add a 1;button b do add b 1;}";
        checks.alikeAre(first, second, 400);
        WindowHouse x = Checks.beside(first, second);
        checks.due("map(0)", x.map(0), 20);
        checks.due("map(1)", x.map(1), 20);
    }

    private static void pairsOf401() {
        checks.about("32: 5 (more than 400 pairs)");
        String end = "button z if a=9 and b=9 and c=3 do fault 1;";
        WindowHouse x = Checks.beside(chain("", end), chain("", end));
        x.push(3);
        checks.due("apart()", x.apart(), -1);
        checks.troubleIs(x, 5);
        checks.due("count(4)", x.count(4), 400);
        checks.rowIs(x, 3);
        // the 401st is one more, whether it shows unlike or not
        x = Checks.beside(chain("", end), chain("", end.replace("fault 1", "fault 2")));
        x.push(3);
        checks.due("apart()", x.apart(), -1);
        checks.troubleIs(x, 5);
        checks.due("count(4)", x.count(4), 400);
        checks.rowIs(x, 3);
        // 21 by 20
        x = Checks.beside("var a 6;var b 2;window w{button a do add a 1;button b do add b 1;}", "var a 4;var b 3;window w{button a do add a 1;button b do add b 1;}");
        x.push(3);
        checks.due("apart()", x.apart(), -1);
        checks.troubleIs(x, 5);
        checks.due("count(4)", x.count(4), 400);
        checks.rowIs(x, 3);
        // THE MAP is no matter of it
        checks.due("map(0)", x.map(0), 21);
        checks.due("apart()", x.apart(), -1);
        checks.due("count(0)", x.count(0), 21);
        // one that is unlike before there are so many is found
        String large = Checks.repeated("var ? 9;", 6) + "window w{" + Checks.repeated("button ? do add ? 1;", 6) + "button z if f=3 do close;}";
        x = Checks.beside(large, large.replace("f=3", "f=2"));
        checks.due("apart()", x.apart(), 2);
        checks.troubleIs(x, 0);
        checks.rowIs(x, 5, 5);
    }

    private static void count() {
        checks.about("33: count 0 .. 4; NONE for others");
        WindowHouse x = Checks.beside("window a{button b do fault 1;}", "window a{button b do fault 2;}");
        int[] fresh = {0, -1, 0, 0, 0};
        for (int what = 0; what < 5; what++) {
            checks.due("count(" + what + ")", x.count(what), fresh[what]);
        }
        for (int what : new int[] {-1, 5, 6, Integer.MIN_VALUE, Integer.MAX_VALUE}) {
            checks.due("count(" + what + ")", x.count(what), -1);
        }
        x.map(0);
        checks.due("count(0)", x.count(0), 2);
        checks.due("count(1)", x.count(1), 0);
        x.map(1);
        checks.due("count(1)", x.count(1), 1);
        x.apart();
        checks.due("count(2)", x.count(2), 1);
        checks.due("count(4): one that shows unlike, too", x.count(4), 2);
        // of the latest apart(), whatever comes of the APPS
        Checks.tell(x, 0, "window a{}");
        checks.due("count(4)", x.count(4), 2);
        checks.due("apart()", x.apart(), 0);
        checks.due("count(4)", x.count(4), 1);
        checks.due("count(2)", x.count(2), 0);
        for (int k = 1; k <= 40; k++) {
            x.feed(0, 0, 0, 0, 0);
            checks.due("count(3)", x.count(3), 20 * k);
        }
        x.app(0, 800);
        checks.due("count(3)", x.count(3), 0);
        x.push(-1);
        x.count(9);
        checks.troubleIs(x, 2);
    }

    /** What a call answers, with a MAP or without, and the TROUBLE then. */
    private static void troubleIs(Function<WindowHouse, Integer> call, boolean mapped, int answer, int trouble) {
        WindowHouse x = Checks.beside("var v 1;window a{button b do set v 1;button c if v=1 do fault 1;}", "window a{}");
        if (mapped) {
            x.map(0);
        }
        // another one ahead of it
        if (trouble == 0) {
            x.push(-1);
            checks.troubleIs(x, 2);
        } else {
            x.begin(0);
            checks.troubleIs(x, 0);
        }
        checks.due("the answer", call.apply(x), answer);
        checks.troubleIs(x, trouble);
        checks.due("trouble() asked again", x.trouble(), trouble);
        checks.due("where()", x.where(), trouble == 3 ? 0 : -1);
    }

    private static void trouble() {
        checks.about("V: TROUBLE of the latest call that may be refused; 34");
        checks.due("ahead of any", new WindowHouse().trouble(), 0);
        troubleIs(x -> Checks.tell(x, 0, "window a{}"), false, 1, 0);
        troubleIs(x -> x.app(2, 0), false, -1, 1);
        troubleIs(x -> x.app(0, 1), false, -1, 2);
        troubleIs(x -> x.app(0, 0), false, -1, 3);
        troubleIs(x -> x.act(0, 0), false, 1, 0);
        troubleIs(x -> x.act(2, 0), false, -1, 1);
        troubleIs(x -> x.act(0, 27), false, -1, 2);
        troubleIs(x -> x.act(0, 1), false, -1, 4);
        troubleIs(x -> x.begin(0) ? 1 : 0, false, 1, 0);
        troubleIs(x -> x.begin(2) ? 1 : 0, false, 0, 1);
        troubleIs(x -> x.map(0), false, 3, 0);
        troubleIs(x -> x.map(2), false, -1, 1);
        troubleIs(x -> x.rowTo(2), true, 2, 0);
        troubleIs(x -> x.rowTo(2), false, -1, 6);
        troubleIs(x -> x.rowTo(3), true, -1, 1);
        troubleIs(x -> x.faultAt(1), true, 2, 0);
        troubleIs(x -> x.faultAt(2), true, -2, 0);
        troubleIs(x -> x.faultAt(1), false, -1, 6);
        troubleIs(x -> x.faultAt(0), true, -1, 2);
        troubleIs(x -> x.pressedAt(1), true, 1, 0);
        troubleIs(x -> x.pressedAt(1), false, -1, 6);
        troubleIs(x -> x.pressedAt(2), true, -1, 1);
        troubleIs(x -> x.never(), true, 0, 0);
        troubleIs(x -> x.never(), false, -1, 6);
        troubleIs(x -> x.holdsAt(0, 1), true, 1, 0);
        troubleIs(x -> x.holdsAt(0, 2), true, -2, 0);
        troubleIs(x -> x.holdsAt(0, 1), false, -1, 6);
        troubleIs(x -> x.holdsAt(1, 1), true, -1, 1);
        troubleIs(x -> x.stuck(0), true, 2, 0);
        troubleIs(x -> x.stuck(0), false, -1, 6);
        troubleIs(x -> x.stuck(1), true, -1, 1);
        troubleIs(x -> x.least(), true, 3, 0);
        troubleIs(x -> x.least(), false, -1, 6);
        troubleIs(x -> x.views(), true, 3, 0);
        troubleIs(x -> x.views(), false, -1, 6);
        troubleIs(x -> x.farthest(), true, 2, 0);
        troubleIs(x -> x.farthest(), false, -1, 6);
        troubleIs(x -> x.ways(), true, 3 + 4 + 1, 0);
        troubleIs(x -> x.ways(), false, -1, 6);
        troubleIs(x -> x.push(0), false, 1, 0);
        troubleIs(x -> x.push(27), false, -1, 2);
        troubleIs(x -> x.cut(0) ? 1 : 0, false, 1, 0);
        troubleIs(x -> x.cut(1) ? 1 : 0, false, 0, 2);
        troubleIs(x -> x.tryRow(0), false, 0, 0);
        troubleIs(x -> x.tryRow(2), false, -1, 1);
        troubleIs(x -> x.rowTo(2) + x.shorter(0), true, 4, 0);
        troubleIs(x -> x.shorter(2), false, -1, 1);
        troubleIs(x -> x.shorter(0), false, -1, 4);
        troubleIs(x -> x.apart(), false, 0, 0);
    }

    private static void quietCalls() {
        checks.about("V: calls that may not be refused leave TROUBLE alone");
        WindowHouse x = Checks.mapped("var v 1;window a{button b do set v 1;}");
        IntSupplier[] calls = {() -> x.fault(), () -> x.where(), () -> x.about(0, 0), () -> x.about(9, 0), () -> x.button(0, 0, 0), () -> x.button(0, 9, 0),
            () -> x.state(0, 0), () -> x.state(9, 0), () -> x.var(0, 0), () -> x.var(0, 9), () -> x.can(0, 0), () -> x.can(0, 99), () -> x.met(0, 0),
            () -> x.met(0, 5), () -> x.met(9, 0), () -> x.leads(0, 0), () -> x.leads(0, 5), () -> x.leads(9, 0), () -> x.tried(), () -> x.count(0),
            () -> x.count(9), () -> x.trouble(), () -> Checks.rowAt(x, 0), () -> Checks.rowAt(x, 9), () -> x.feed(0, 0, 0, 0, 0)};
        for (IntSupplier call : calls) {
            x.push(27);
            call.getAsInt();
            checks.troubleIs(x, 2);
            x.cut(0);
            call.getAsInt();
            checks.troubleIs(x, 0);
        }
    }

    private static void calls512() {
        checks.about("an object is used for at most 512 calls");
        WindowHouse x = new WindowHouse();
        String text = chain("", "");
        Checks.feed(x, text);
        int made = (text.length() + 19) / 20;
        checks.due("app", x.app(0, text.length()), 1);
        for (made++; made < 512 - 6; made += 4) {
            checks.due("map(0)", x.map(0), 400);
            checks.due("least()", x.least(), 400);
            checks.due("rowTo(399)", x.rowTo(399), 399);
            checks.due("tryRow(0)", x.tryRow(0), 0);
        }
        checks.due("tried()", x.tried(), 399);
    }

    private static void sameAnswers() {
        checks.about("the same calls always give the same answers");
        WindowHouse[] two = {Checks.beside(chain("", ""), chain(",open w", "")), Checks.beside(chain("", ""), chain(",open w", ""))};
        int[][] got = new int[2][];
        for (int k = 0; k < 2; k++) {
            WindowHouse x = two[k];
            got[k] = new int[] {x.map(1), x.apart(), x.count(4), x.least(), x.views(), x.ways(), x.stuck(0), x.rowTo(399), x.tryRow(0), x.shorter(0)};
        }
        for (int k = 0; k < got[0].length; k++) {
            checks.due("call " + k, got[0][k], got[1][k]);
        }
    }
}
