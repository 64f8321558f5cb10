/** Promises 32 to 34: two versions side by side, counts, trouble. */
public final class ApartTest {
    private static final Checks checks = new Checks();

    public static void main(String[] args) {
        refusals();
        alike();
        unlikeAtFirst();
        unlikeLater();
        possibleInOneAlone();
        byNames();
        toldAgain();
        most();
        counting();
        checks.end();
    }

    private static void refusals() {
        checks.about("32 apart: refused");
        WindowHouse x = new WindowHouse();
        checks.due("apart()", x.apart(), -1);
        checks.troubleIs(x, 1);
        Checks.tell(x, 1, "window a{}");
        checks.due("apart()", x.apart(), -1);
        checks.troubleIs(x, 1);
        x = Checks.with("window a{}");
        x.push(3);
        checks.due("apart()", x.apart(), -1);
        checks.troubleIs(x, 1);
        checks.due("count(4)", x.count(4), 0);
        checks.rowIs(x, 3);
    }

    private static void alike() {
        checks.about("32 apart: alike");
        checks.alikeAre("window a{}", "window a{}", 1);
        // what is never shown and never asked is no matter, nor what a VAR is called
        checks.alikeAre("var x 1;window a{show x;button b do add x 1;}", "kept q 9;var y 1;window a{show y;button b do add y 1,add q 1;}", 20);
        // a fault is a fault, whatever is kept
        checks.alikeAre("kept k 1;window a{button f do set k 1,fault 2;}", "window a{button f do fault 2;}", 3);
        // buttons told in another order, and windows
        checks.alikeAre("window a{button b do open c;button d do fault 1;}window c{button e do close;}",
                "window a{button d do fault 1;button b do open c;}window x{}window c{button e do close;}", 3);
    }

    private static void unlikeAtFirst() {
        checks.about("32 apart: at first");
        checks.apartIs("window a{}", "window b{}", 1);
        checks.apartIs("var x 1;window a{show x;}", "window a{}", 1);
        checks.apartIs("var x 1;window a{show x;}", "var x 1;window a{show x;show x;}", 1);
        checks.apartIs("window a{button b do close;}", "window a{button c do close;}", 1);
        checks.apartIs("window a{button b do close;}", "window a{}", 1);
        checks.apartIs("window a{}", "window a{button b do close;}", 1);
        // buttons that can't be pressed are not seen
        checks.apartIs("window a{button b do fault 1;}", "var x 1;window a{button b do fault 2;button c if x=1 do close;}", 2, 0);
    }

    private static void unlikeLater() {
        checks.about("32 apart: later");
        checks.apartIs("window a{button b do fault 1;}", "window a{button b do fault 2;}", 2, 0);
        checks.apartIs("window a{button b do fault 1;}", "window a{button b do close;}", 2, 0);
        checks.apartIs("window a{button b do open c;}window c{}", "window a{button b do open d;}window d{}window c{}", 2, 0);
        checks.apartIs("var x 3;window a{show x;button b do add x 1;}", "var x 2;window a{show x;button b do add x 1;}", 4, 0, 0, 0);
        // one waits longer
        checks.apartIs("window a{after 2 do fault 1;}", "window a{after 3 do fault 1;}", 3, 24, 24);
        // what is kept stays
        checks.apartIs("kept x 1;window a{show x;button b do set x 1;}", "var x 1;window a{show x;button b do set x 1;}", 3, 0, 26);
        // by numbers of APP 0, of the first row met
        checks.apartIs("window a{button b do close;button c do open d;}window d{button e do fault 1;button f do fault 2;}",
                "window a{button c do open d;button b do close;}window d{button f do fault 3;button e do fault 4;}", 3, 1, 2);
        // the first met is the first by the order of pairs and acts, not by the length of texts
        checks.apartIs("var x 9;window a{button b do set x 1;button c do set x 2;button d if x=2 do fault 1;}",
                "var x 9;window a{button b do set x 1;button c do set x 2;button d if x=2 do fault 2;}", 4, 1, 2);
    }

    private static void possibleInOneAlone() {
        checks.about("32 apart: an act of one alone");
        // both show a, but in one there is a window below
        checks.apartIs("window a{button b do open a;}", "window a{button b do close;}", 3, 0, 25);
        checks.apartIs("window a{button b do close;}", "window a{button b do open a;}", 3, 0, 125);
        // what APP 1 alone can do comes behind all that APP 0 can
        checks.apartIs("var h 1;window a{button b do set h 1;after 1 do open z;}window z{show h;}",
                "var h 1;window a{button b do open a;after 1 do open z;}window z{show h;}", 5, 0, 24);
        checks.apartIs("window a{button b do close;button c do open d;}window d{}",
                "window a{button b do open a;button c do open d;}window d{}", 5, 0, 125);
        // a row with an act of APP 1 alone: none of that number is possible, it's left out
        WindowHouse x = Checks.beside("window a{button b do close;}", "window a{button b do open a;}");
        checks.due("apart()", x.apart(), 2);
        checks.due("tryRow(1)", x.tryRow(1), 0);
        checks.due("tried()", x.tried(), 2);
    }

    private static void byNames() {
        checks.about("32 apart: names");
        checks.apartIs("window abcdefgh{}", "window abcdefgi{}", 1);
        checks.apartIs("window ab{}", "window a{}", 1);
        checks.apartIs("window a{button abcdefgh do close;}", "window a{button bbcdefgh do close;}", 1);
        // the same name in another window is another button
        checks.alikeAre("window a{button x do open b;}window b{button x do close;}", "window a{button x do open b;}window b{button x do close;}", 2);
    }

    private static void toldAgain() {
        checks.about("32 apart: again and again");
        String large = "var a 9;var b 9;var c 4;window w{button a do add a 1;button b do add b 1;button c do add c 1;}";
        WindowHouse x = Checks.beside("window a{button b do close;}", "window a{button b do open a;}");
        checks.due("apart()", x.apart(), 2);
        checks.rowIs(x, 0, 125);
        checks.due("apart() again", x.apart(), 2);
        Checks.tell(x, 1, "window a{button b do close;}");
        checks.due("apart()", x.apart(), -2);
        checks.due("count(4)", x.count(4), 1);
        Checks.tell(x, 0, large);
        Checks.tell(x, 1, large);
        checks.due("apart()", x.apart(), -1);
        checks.troubleIs(x, 5);
        Checks.tell(x, 0, "window a{button b do fault 1;}");
        Checks.tell(x, 1, "window a{button b do fault 2;}");
        checks.due("apart()", x.apart(), 1);
        checks.rowIs(x, 0);
        checks.due("count(4)", x.count(4), 2);
        Checks.tell(x, 0, "window a{button b do fault 2;}");
        checks.due("apart()", x.apart(), -2);
        checks.troubleIs(x, 0);
        checks.due("count(4)", x.count(4), 2);
    }

    private static void most() {
        checks.about("32 apart: 400 pairs");
        String text = "var a 9;var b 9;var c ?;window w{button a do add a 1;button b do add b 1;button c do add c 1;}";
        checks.alikeAre(text.replace('?', '3'), text.replace('?', '3'), 400);
        WindowHouse x = Checks.beside(text.replace('?', '4'), text.replace('?', '4'));
        x.push(5);
        checks.due("apart()", x.apart(), -1);
        checks.troubleIs(x, 5);
        checks.due("count(4)", x.count(4), 400);
        checks.rowIs(x, 5);
        // both are small alone: 3 by 5 by .. states, but not together
        String small = "var a ?;window w{button a do add a 1;}";
        checks.alikeAre(small.replace('?', '8'), small.replace('?', '9'), 90);
        checks.alikeAre(small.replace('?', '9'), small.replace('?', '9'), 10);
    }

    private static void counting() {
        checks.about("33 count, 34 trouble");
        WindowHouse x = Checks.beside("window a{button b do fault 1;}", "window a{button b do fault 2;}");
        checks.due("count(4) ahead of any", x.count(4), 0);
        x.apart();
        x.map(1);
        Checks.feed(x, "abc");
        int[] due = {2, 1, 1, 20, 2};
        for (int what = 0; what < 5; what++) {
            checks.due("count(" + what + ")", x.count(what), due[what]);
        }
        for (int what : new int[] {-1, 5, Integer.MIN_VALUE, Integer.MAX_VALUE}) {
            checks.due("count(" + what + ")", x.count(what), -1);
        }
        checks.troubleIs(x, 0);
        x.push(-1);
        int[] quiet = {x.count(9), x.tried(), x.fault(), x.where(), x.about(9, 9), x.button(9, 9, 9), x.state(9, 9), x.var(9, 9),
            x.can(9, 9), x.met(-1, 0), x.leads(-1, 0), x.trouble()};
        checks.due("calls that aren't refused by a number leave the trouble: " + quiet.length, x.trouble(), 2);
        x.cut(0);
        checks.troubleIs(x, 0);
    }
}
