/** Promise 4, NAMES: FREE VARIABLES, ALIKE, and A[v:=t]. */
public final class Promise04PutTest {
    private static final String START = "SORT box;VAR x num;VAR y num;VAR z num;VAR b box;VAR d box;FUN f(num,num) num;"
            + "REL p(num);REL e(num,num);REL r(box);REL q();";
    private static final String STARTED = "0 0 0 0 0 0 0 0 0 0 0";

    public static void main(String[] args) {
        alike();
        put();
        renamed();
        noneLeft();
        great();
        theLastOneLeft();
        whichIsTaken();
        oneBehindTheOther();
        allStays();
        alikeToTheEnd();
        madeTooGreat();
        Bench.done();
    }

    private static void told(String statements, String due) {
        new Bench().check(START + statements, STARTED + " " + due);
    }

    private static void alike() {
        told("ALIKE !x p(x) !y p(y);ALIKE !x p(x) ?x p(x);ALIKE !x p(y) !y p(y);ALIKE !x p(y) !z p(y);", "[1] [0] [0] [1]");
        told("ALIKE !x !y e(x,y) !y !x e(y,x);ALIKE !x !y e(x,y) !x !y e(y,x);ALIKE !x !x e(x,x) !y !x e(x,x);", "[1] [0] [1]");
        told("ALIKE !x !x e(x,x) !y !x e(y,x);ALIKE !x !y p(x) !x !x p(x);ALIKE !x !y q !y !y q;", "[0] [0] [1]");
        // What is bound must be of the same SORT, though it is nowhere.
        told("ALIKE !x q !b q;ALIKE !b r(b) !d r(d);ALIKE !b q !d q;", "[0] [1] [1]");
        told("ALIKE p(x) p(y);ALIKE p(x) p(x);ALIKE x x;ALIKE x y;ALIKE f(x,0) f(x,0);ALIKE f(x,0) f(x,1);ALIKE next(0) 1;",
                "[0] [1] [1] [0] [1] [0] [0]");
        told("ALIKE &(!x p(x),p(x)) &(!y p(y),p(x));ALIKE &(!x p(x),p(x)) &(!y p(y),p(y));", "[1] [0]");
        told("ALIKE >(q,#) |(q,#);ALIKE q #;ALIKE q x;ALIKE b x;ALIKE 0 x;", "[0] [0] [0] [0] [0]");
    }

    private static void put() {
        told("PUT p(x) x 0;PUT p(y) x 0;PUT e(x,f(x,y)) x f(y,y);PUT =(x,x) x y;PUT q x x;",
                "[p(0)] [p(y)] [e(f(y,y),f(f(y,y),y))] [=(y,y)] [q]");
        told("PUT !x p(x) x 0;PUT &(p(x),!x p(x)) x 0;PUT ?y e(x,y) x 7;PUT !y e(x,y) x z;", "[!x p(x)] [&(p(0),!x p(x))] [?y e(7,y)] [!y e(z,y)]");
        told("PUT !b p(x) x y;PUT r(b) b d;PUT !d r(b) b b;", "[!b p(y)] [r(d)] [!d r(b)]");
    }

    private static void renamed() {
        // The first VARIABLE told that is of the SORT, is not v, and is FREE neither in t nor in B.
        told("PUT !y e(x,y) x y;PUT ?y e(x,y) x f(y,z);", "[!z e(y,z)] 13");
        told("PUT !z e(y,z) y z;PUT !z e(y,z) y f(z,z);", "[!x e(z,x)] [!x e(f(z,z),x)]");
        // Where v is not FREE all stays as it is, though y is FREE in t.
        told("PUT !y p(y) x y;PUT &(p(x),!y p(y)) x y;PUT !x !y e(x,y) x y;", "[!y p(y)] [&(p(y),!y p(y))] [!x !y e(x,y)]");
        // y need not be in B to be made another one.
        told("PUT !y p(x) x y;", "[!z p(y)]");
        // Making y another VARIABLE goes by the same rule within.
        told("PUT !y !z e(x,y) x y;VAR w num;PUT !y !z e(x,y) x y;PUT !y !z e(f(x,y),z) x y;",
                "13 0 [!z !w e(y,z)] [!z !w e(f(y,z),w)]");
        told("PUT !y &(e(x,y),!z e(y,z)) x y;", "[!z &(e(y,z),!x e(z,x))]");
        told("PUT &(!y e(x,y),!z e(x,z)) x f(y,y);", "[&(!z e(f(y,y),z),!z e(f(y,y),z))]");
        // However deep it is.
        String front = Bench.repeat("&(q,", 34);
        String back = Bench.repeat(")", 34);
        told("VAR w num;PUT !y " + front + "!z e(f(x,y),z)" + back + " x y;PUT " + front + "!y !z e(f(x,y),z)" + back + " x y;",
                "0 [!z " + front + "!w e(f(y,z),w)" + back + "] [" + front + "!z !w e(f(y,z),w)" + back + "]");
        front = Bench.repeat("&(", 34);
        back = Bench.repeat(",q)", 34);
        told("VAR w num;PUT !y " + front + "!z e(f(x,y),z)" + back + " x y;PUT " + front + "!y !z e(f(x,y),z)" + back + " x y;",
                "0 [!z " + front + "!w e(f(y,z),w)" + back + "] [" + front + "!z !w e(f(y,z),w)" + back + "]");
        // Each ! and ? is looked at for itself, from the outside.
        told("PUT !y !y e(x,y) x y;", "[!z !z e(y,z)]");
    }

    private static void noneLeft() {
        String two = "VAR x num;VAR y num;REL e(num,num);";
        new Bench().check(two + "PUT !y e(x,y) x y;VAR z num;PUT !y e(x,y) x y;", "0 0 0 13 0 [!z e(y,z)]");
        new Bench().check(two + "SORT box;VAR b box;PUT !y e(x,y) x y;PUT !y e(x,x) x next(x);", "0 0 0 0 0 13 [!y e(next(x),next(x))]");
        // What v is itself may not be taken, though it is FREE no more.
        new Bench().check("VAR x num;VAR y num;REL p(num);PUT !y p(x) x y;", "0 0 0 13");
        // 13 comes ahead of 6.
        String wide = Bench.repeat("f(x,", 35) + "x" + Bench.repeat(")", 35);
        new Bench().check("VAR x num;VAR y num;FUN f(num,num) num;REL e(num,num);PUT &(e(" + wide + "," + wide + "),!y e(x,y)) x "
                + wide.replace("x", "y") + ";", "0 0 0 0 13");
    }

    private static void great() {
        String start = "VAR x num;FUN f(num,num,num) num;REL u(num,num,num);";
        String nine = "u(f(x,x,x),f(x,x,x),f(x,x,x))";
        String t = Bench.repeat("f(0,0,", 14) + "0" + Bench.repeat(")", 14);
        // 9 times x: the 13 PLACES are 4 + 9 * 43 = 391 then, and each |(#, ) is two more.
        String four = "|(#,|(#,|(#,|(#," + nine + "))))";
        new Bench().check(start + "VAR y num;PUT !y " + four + " x " + t + ";", "0 0 0 0 [!y " + four.replace("x", t) + "]");
        new Bench().check(start + "VAR y num;PUT |(#," + four + ") x " + t + ";", "0 0 0 0 6");
        // 40 DEEP is not too much.
        for (int more = 18; more <= 20; more++) {
            String made = "=(0," + nexts(20 + more, "0") + ")";
            new Bench().check(start + "PUT =(0," + nexts(20, "x") + ") x " + nexts(more, "0") + ";",
                    "0 0 0 " + (more == 18 ? "[" + made + "]" : "6"));
        }
        // T may be as deep as it likes where v is not.
        new Bench().check(start + "PUT =(0," + nexts(20, "0") + ") x " + nexts(30, "x") + ";", "0 0 0 [=(0," + nexts(20, "0") + ")]");
    }

    private static String nexts(int times, String within) {
        return Bench.repeat("next(", times) + within + Bench.repeat(")", times);
    }

    private static String thirty(String sort) {
        StringBuilder text = new StringBuilder("FUN g(num,num) num;REL e(num,num);SORT box;");
        for (int k = 0; k < 30; k++) {
            text.append("VAR v").append(k).append(' ').append(k == 29 ? sort : "num").append(';');
        }
        return text.toString();
    }

    private static String chain(int from, int to) {
        return from == to ? "v" + from : "g(v" + from + "," + chain(from + 1, to) + ")";
    }

    private static String tree(int from, int to) {
        int middle = (from + to) / 2;
        return from == to ? "v" + from : "g(" + tree(from, middle) + "," + tree(middle + 1, to) + ")";
    }

    private static void theLastOneLeft() {
        Bench.sentence("the first VARIABLE that is not v, and FREE neither in t nor in B; if there is none, 13");
        // v0 is v, v1 is y; all others but the last one are FREE in t or in B.
        String b = "e(" + chain(16, 28) + ",g(v0,v1))";
        String put = "PUT !v1 " + b + " v0 " + chain(1, 15) + ";";
        String made = b.replace("v1)", "v29)").replace("v0", chain(1, 15));
        Bench bench = new Bench();
        bench.run(thirty("num"));
        bench.check(put, "[!v29 " + made + "]");
        bench.check(put.replace("v0 " + chain(1, 15), "v0 g(v29," + chain(1, 15) + ")"), "13");
        bench.check("PUT !v1 e(g(v29," + chain(16, 28) + "),g(v0,v1)) v0 " + chain(1, 15) + ";", "13");
        // Of another SORT it is none.
        Bench other = new Bench();
        other.run(thirty("box"));
        other.check(put, "13");
        // The last one as v, as y, and as what is FREE.
        bench.check("PUT !v0 e(v29,v0) v29 v0;PUT !v29 e(v0,v29) v0 v29;PUT !v1 e(v29,v1) v29 v29;PUT !v29 e(v29,v0) v29 v0;PUT !v28 e(v29,v28) v29 g(v28,v29);",
                "[!v1 e(v0,v1)] [!v1 e(v29,v1)] [!v1 e(v29,v1)] [!v29 e(v29,v0)] [!v0 e(g(v28,v29),v0)]");
        // One is left, then none, where ! is around !.
        String three = "VAR x num;VAR y num;VAR z num;FUN g(num,num) num;REL e(num,num);";
        new Bench().check(three + "PUT !y e(x,y) x y;PUT !y !z e(g(x,y),z) x y;VAR w num;PUT !y !z e(g(x,y),z) x y;PUT !y !z e(g(x,y),z) x g(y,z);VAR u num;"
                + "PUT !y !z e(g(x,y),z) x g(y,z);", "0 0 0 0 0 [!z e(y,z)] 13 0 [!z !w e(g(y,z),w)] 13 0 [!w !u e(g(g(y,z),w),u)]");
        // 13 of any part, wherever it stands, and of none that v is not FREE in.
        String two = "VAR x num;VAR y num;REL e(num,num);REL q();";
        for (String front : new String[] {"&(q,", "|(q,", ">(q,", "?x &(q,", "!x "}) {
            String back = front.endsWith(",") ? ")" : "";
            boolean bound = front.contains("x");
            new Bench().check(two + "PUT " + front + "!y e(x,y)" + back + " x y;PUT " + front + "!y e(y,y)" + back + " x y;", "0 0 0 0 "
                    + (bound ? "[" + front + "!y e(x,y)" + back + "]" : "13") + " [" + front + "!y e(y,y)" + back + "]");
        }
        new Bench().check(two + "PUT &(!y e(x,y),q) x y;PUT &(!y e(y,y),?y e(x,y)) x y;", "0 0 0 0 13 13");
    }

    private static void whichIsTaken() {
        Bench.sentence("the first VARIABLE, as they were told, of y's SORT that is not v, and FREE neither in t nor in B");
        String start = "SORT box;VAR d box;VAR c num;VAR b num;VAR a num;VAR x num;VAR y num;FUN g(num,num) num;REL e(num,num);REL r(box,num);VAR k box;";
        String started = "0 0 0 0 0 0 0 0 0 0 0 ";
        // c is the first one of SORT num, then b, a; x is v; of y there is nothing to be taken.
        new Bench().check(start + "PUT !y e(x,y) x y;PUT !y e(g(x,c),y) x y;PUT !y e(x,y) x g(y,c);PUT !y e(g(x,b),y) x g(c,y);PUT !y e(g(x,g(a,b)),y) x g(c,y);",
                started + "[!c e(y,c)] [!b e(g(y,c),b)] [!b e(g(y,c),b)] [!a e(g(g(c,y),b),a)] 13");
        // One that is bound within B is not FREE there: it is taken, and made another one in its turn.
        new Bench().check(start + "PUT !y !c e(g(x,y),c) x y;PUT !y &(e(x,y),!c e(c,c)) x y;PUT !y &(e(x,y),!c e(y,c)) x y;",
                started + "[!c !b e(g(y,c),b)] [!c &(e(y,c),!c e(c,c))] [!c &(e(y,c),!b e(c,b))]");
        // Of SORT box.
        new Bench().check(start + "PUT !d r(d,x) x y;PUT !d r(k,x) k d;PUT !k r(d,0) d k;VAR m box;PUT !d r(k,x) k d;PUT !k r(d,0) d k;PUT !m r(k,0) k m;",
                started + "[!d r(d,y)] 13 13 0 [!m r(d,x)] [!m r(k,0)] [!d r(m,0)]");
    }

    // y is made z, so that the z within is made another one, and so on, to the last VARIABLE that there is.
    private static void oneBehindTheOther() {
        Bench.sentence("y is first made (by the same rule) the first VARIABLE ..");
        for (int around = 2; around <= 29; around++) {
            StringBuilder start = new StringBuilder("FUN g(num,num) num;REL p(num);VAR x num;");
            StringBuilder front = new StringBuilder();
            StringBuilder made = new StringBuilder();
            for (int k = 1; k <= around; k++) {
                start.append("VAR v").append(k).append(" num;");
                front.append("!v").append(k).append(' ');
                made.append("!v").append(k + 1).append(' ');
            }
            String put = "PUT " + front + "p(g(x," + tree(1, around) + ")) x v1;";
            Bench bench = new Bench();
            bench.run(start.toString());
            if (around == 29) {
                bench.check(put, "13");
                continue;
            }
            bench.check(put + "VAR v" + (around + 1) + " num;" + put, "13 0 [" + made + "p(g(v1," + tree(2, around + 1) + "))]");
        }
    }

    private static void allStays() {
        Bench.sentence("Where v is not FREE all stays as it is");
        told("PUT !y e(y,y) x y;PUT !x !y e(x,y) x y;PUT &(!x e(x,y),!y e(y,y)) x y;PUT ?y !x e(x,y) x f(y,y);PUT q x y;", 
                "[!y e(y,y)] [!x !y e(x,y)] [&(!x e(x,y),!y e(y,y))] [?y !x e(x,y)] [q]");
        told("PUT &(e(x,y),!y !x e(x,y)) x y;PUT !y &(p(x),!x p(x)) x z;PUT !z &(p(x),!z !x e(x,z)) x z;",
                "[&(e(y,y),!y !x e(x,y))] [!y &(p(z),!x p(x))] [!y &(p(z),!z !x e(x,z))]");
    }

    private static void alikeToTheEnd() {
        Bench.sentence("ALIKE: what these bind is compared by where it is bound");
        // 38 ! around one another, and what the first, the last, and none of them binds.
        String start = "VAR x num;VAR y num;VAR z num;REL p(num);REL e(num,num);SORT box;VAR b box;";
        String started = "0 0 0 0 0 0 0 ";
        String xs = Bench.repeat("!x ", 37);
        String ys = Bench.repeat("!y ", 37);
        new Bench().check(start + "ALIKE " + xs + "!x p(x) " + ys + "!y p(y);ALIKE " + xs + "!y p(x) " + ys + "!x p(y);ALIKE " + xs + "!y p(x) " + ys + "!y p(y);ALIKE " + xs
                + "!x p(z) " + ys + "!y p(z);ALIKE " + xs + "!x p(y) " + ys + "!y p(x);", started + "[1] [1] [0] [1] [0]");
        new Bench().check(start + "ALIKE !z " + xs + "e(z,x) !z " + ys + "e(z,y);ALIKE !z " + xs + "e(z,x) !x " + ys + "e(x,y);ALIKE !z " + xs + "e(z,x) !y " + ys + "e(y,y);",
                started + "[1] [1] [0]");
        new Bench().check(start + "ALIKE !x #  !b #;ALIKE ?x ?b # ?y ?b #;ALIKE ?x ?b # ?b ?x #;ALIKE !x # ?x #;ALIKE !x p(x) !x p(next(x));ALIKE !x # #;",
                started + "[0] [1] [0] [0] [0] [0]");
        // Behind a ! that is over, what is FREE is FREE.
        new Bench().check(start + "ALIKE &(!x p(x),p(x)) &(!y p(y),p(x));ALIKE &(!x p(x),p(x)) &(!y p(y),p(y));ALIKE >(!x !y e(x,y),e(x,y)) >(!y !x e(y,x),e(x,y));"
                + "ALIKE >(!x !y e(x,y),e(x,y)) >(!y !x e(y,x),e(y,x));", started + "[1] [0] [1] [0]");
        new Bench().check(start + "ALIKE 99999 99999;ALIKE 99999 99998;ALIKE 0 #;ALIKE next(0) 0;ALIKE x x;ALIKE x y;ALIKE x b;", started + "[1] [0] [0] [0] [1] [0] [0]");
    }

    private static void madeTooGreat() {
        Bench.sentence("PUT F v T: F[v:=T] (13, 6)");
        String start = "VAR x num;VAR y num;FUN f(num,num) num;REL p(num);REL e(num,num);";
        // p(x) is 2 PLACES, with next(0) for x 3: just 400, just 401.
        new Bench().check(start + "PUT &(" + Bench.wide(396) + ",p(x)) x next(0);", "0 0 0 0 0 [&(" + Bench.wide(396) + ",p(next(0)))]");
        new Bench().check(start + "PUT &(" + Bench.wide(397) + ",p(x)) x next(0);", "0 0 0 0 0 6");
        new Bench().check(start + "PUT &(" + Bench.wide(397) + ",p(x)) x 0;", "0 0 0 0 0 [&(" + Bench.wide(397) + ",p(0))]");
        // Where T is far greater than 400 in all, it is but 6.
        String many = "e(" + Bench.repeat("f(x,", 30) + "x" + Bench.repeat(")", 30) + ",x)";
        new Bench().check(start + "PUT " + many + " x " + Bench.repeat("f(0,", 38) + "0" + Bench.repeat(")", 38) + ";", "0 0 0 0 0 6");
        new Bench().check(start + "PUT p(" + Bench.nexts(19, "x") + ") x " + Bench.nexts(19, "0") + ";PUT p(" + Bench.nexts(19, "x") + ") x " + Bench.nexts(20, "0") + ";",
                "0 0 0 0 0 [p(" + Bench.nexts(38, "0") + ")] 6");
        new Bench().check(start + "PUT !y p(" + Bench.nexts(18, "x") + ") x " + Bench.nexts(19, "0") + ";PUT !y p(" + Bench.nexts(19, "x") + ") x " + Bench.nexts(19, "0") + ";",
                "0 0 0 0 0 [!y p(" + Bench.nexts(37, "0") + ")] 6");
    }
}
