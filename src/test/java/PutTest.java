/** Promise 4: FREE VARIABLES, ALIKE, and A[v:=t]. */
public final class PutTest {
    private static final String START = "SORT box;VAR x num;VAR y num;VAR z num;VAR b box;VAR d box;FUN f(num,num) num;"
            + "REL p(num);REL e(num,num);REL r(box);REL q();";
    private static final String STARTED = "0 0 0 0 0 0 0 0 0 0 0";

    public static void main(String[] args) {
        alike();
        put();
        renamed();
        noneLeft();
        great();
        Bench.done();
    }

    private static void told(String statements, String due) {
        new Bench().check(START + statements, STARTED + " " + due);
    }

    private static void alike() {
        told("ALIKE !x p(x) !y p(y);ALIKE !x p(x) ?x p(x);ALIKE !x p(y) !y p(y);ALIKE !x p(y) !z p(y);", "[1] [0] [0] [1]");
        told("ALIKE !x !y e(x,y) !y !x e(y,x);ALIKE !x !y e(x,y) !x !y e(y,x);ALIKE !x !x e(x,x) !y !x e(x,x);", "[1] [0] [1]");
        told("ALIKE !x !x e(x,x) !y !x e(y,x);ALIKE !x !y p(x) !x !x p(x);ALIKE !x !y q !y !y q;", "[0] [0] [1]");
        // What is bound must be of the same SORT, though it is nowhere.
        told("ALIKE !x q !b q;ALIKE !b r(b) !d r(d);ALIKE !b q !d q;", "[0] [1] [1]");
        told("ALIKE p(x) p(y);ALIKE p(x) p(x);ALIKE x x;ALIKE x y;ALIKE f(x,0) f(x,0);ALIKE f(x,0) f(x,1);ALIKE next(0) 1;",
                "[0] [1] [1] [0] [1] [0] [0]");
        told("ALIKE &(!x p(x),p(x)) &(!y p(y),p(x));ALIKE &(!x p(x),p(x)) &(!y p(y),p(y));", "[1] [0]");
        told("ALIKE >(q,#) |(q,#);ALIKE q #;ALIKE q x;ALIKE b x;ALIKE 0 x;", "[0] [0] [0] [0] [0]");
    }

    private static void put() {
        told("PUT p(x) x 0;PUT p(y) x 0;PUT e(x,f(x,y)) x f(y,y);PUT =(x,x) x y;PUT q x x;",
                "[p(0)] [p(y)] [e(f(y,y),f(f(y,y),y))] [=(y,y)] [q]");
        told("PUT !x p(x) x 0;PUT &(p(x),!x p(x)) x 0;PUT ?y e(x,y) x 7;PUT !y e(x,y) x z;", "[!x p(x)] [&(p(0),!x p(x))] [?y e(7,y)] [!y e(z,y)]");
        told("PUT !b p(x) x y;PUT r(b) b d;PUT !d r(b) b b;", "[!b p(y)] [r(d)] [!d r(b)]");
    }

    private static void renamed() {
        // The first VARIABLE told that is of the SORT, is not v, and is FREE neither in t nor in B.
        told("PUT !y e(x,y) x y;PUT ?y e(x,y) x f(y,z);", "[!z e(y,z)] 13");
        told("PUT !z e(y,z) y z;PUT !z e(y,z) y f(z,z);", "[!x e(z,x)] [!x e(f(z,z),x)]");
        // Where v is not FREE all stays as it is, though y is FREE in t.
        told("PUT !y p(y) x y;PUT &(p(x),!y p(y)) x y;PUT !x !y e(x,y) x y;", "[!y p(y)] [&(p(y),!y p(y))] [!x !y e(x,y)]");
        // y need not be in B to be made another one.
        told("PUT !y p(x) x y;", "[!z p(y)]");
        // Making y another VARIABLE goes by the same rule within.
        told("PUT !y !z e(x,y) x y;VAR w num;PUT !y !z e(x,y) x y;PUT !y !z e(f(x,y),z) x y;",
                "13 0 [!z !w e(y,z)] [!z !w e(f(y,z),w)]");
        told("PUT !y &(e(x,y),!z e(y,z)) x y;", "[!z &(e(y,z),!x e(z,x))]");
        told("PUT &(!y e(x,y),!z e(x,z)) x f(y,y);", "[&(!z e(f(y,y),z),!z e(f(y,y),z))]");
        // However deep it is.
        String front = Bench.repeat("&(q,", 34);
        String back = Bench.repeat(")", 34);
        told("VAR w num;PUT !y " + front + "!z e(f(x,y),z)" + back + " x y;PUT " + front + "!y !z e(f(x,y),z)" + back + " x y;",
                "0 [!z " + front + "!w e(f(y,z),w)" + back + "] [" + front + "!z !w e(f(y,z),w)" + back + "]");
        front = Bench.repeat("&(", 34);
        back = Bench.repeat(",q)", 34);
        told("VAR w num;PUT !y " + front + "!z e(f(x,y),z)" + back + " x y;PUT " + front + "!y !z e(f(x,y),z)" + back + " x y;",
                "0 [!z " + front + "!w e(f(y,z),w)" + back + "] [" + front + "!z !w e(f(y,z),w)" + back + "]");
        // Each ! and ? is looked at for itself, from the outside.
        told("PUT !y !y e(x,y) x y;", "[!z !z e(y,z)]");
    }

    private static void noneLeft() {
        String two = "VAR x num;VAR y num;REL e(num,num);";
        new Bench().check(two + "PUT !y e(x,y) x y;VAR z num;PUT !y e(x,y) x y;", "0 0 0 13 0 [!z e(y,z)]");
        new Bench().check(two + "SORT box;VAR b box;PUT !y e(x,y) x y;PUT !y e(x,x) x next(x);", "0 0 0 0 0 13 [!y e(next(x),next(x))]");
        // What v is itself may not be taken, though it is FREE no more.
        new Bench().check("VAR x num;VAR y num;REL p(num);PUT !y p(x) x y;", "0 0 0 13");
        // 13 comes ahead of 6.
        String wide = Bench.repeat("f(x,", 35) + "x" + Bench.repeat(")", 35);
        new Bench().check("VAR x num;VAR y num;FUN f(num,num) num;REL e(num,num);PUT &(e(" + wide + "," + wide + "),!y e(x,y)) x "
                + wide.replace("x", "y") + ";", "0 0 0 0 13");
    }

    private static void great() {
        String start = "VAR x num;FUN f(num,num,num) num;REL u(num,num,num);";
        String nine = "u(f(x,x,x),f(x,x,x),f(x,x,x))";
        String t = Bench.repeat("f(0,0,", 14) + "0" + Bench.repeat(")", 14);
        // 9 times x: the 13 PLACES are 4 + 9 * 43 = 391 then, and each |(#, ) is two more.
        String four = "|(#,|(#,|(#,|(#," + nine + "))))";
        new Bench().check(start + "VAR y num;PUT !y " + four + " x " + t + ";", "0 0 0 0 [!y " + four.replace("x", t) + "]");
        new Bench().check(start + "VAR y num;PUT |(#," + four + ") x " + t + ";", "0 0 0 0 6");
        // 40 DEEP is not too much.
        for (int more = 18; more <= 20; more++) {
            String made = "=(0," + nexts(20 + more, "0") + ")";
            new Bench().check(start + "PUT =(0," + nexts(20, "x") + ") x " + nexts(more, "0") + ";",
                    "0 0 0 " + (more == 18 ? "[" + made + "]" : "6"));
        }
        // T may be as deep as it likes where v is not.
        new Bench().check(start + "PUT =(0," + nexts(20, "0") + ") x " + nexts(30, "x") + ";", "0 0 0 [=(0," + nexts(20, "0") + ")]");
    }

    private static String nexts(int times, String within) {
        return Bench.repeat("next(", times) + within + Bench.repeat(")", times);
    }
}
