/** Promise 4: MODELS. */
public final class ModelTest {
    private static final String START = "SORT box;VAR x num;VAR y num;VAR z num;VAR u num;VAR v num;VAR w num;VAR b box;VAR d box;"
            + "FUN g(num,box) box;FUN c() box;FUN k(box,box,box) num;REL p(num);REL q();REL r(num,box);REL t(box,box,box);";
    private static final String STARTED = "0 0 0 0 0 0 0 0 0 0 0 0 0 0 0 0";

    public static void main(String[] args) {
        first();
        told();
        numerals();
        judged();
        variables();
        deep();
        resized();
        Bench.done();
    }

    private static void judge(String statements, String due) {
        new Bench().check(START + statements, STARTED + " " + due);
    }

    private static void first() {
        judge("JUDGE =(x,y);JUDGE =(0,99999);JUDGE q;JUDGE p(x);JUDGE !b =(b,c);JUDGE >(q,#);JUDGE #;", "[1] [1] [0] [0] [1] [1] [0]");
    }

    private static void told() {
        judge("SIZE no 1;SIZE x 1;SIZE box 0;SIZE box 5;SIZE box -1;SIZE box 4;SIZE no 9;", "1 2 7 7 7 0 1");
        judge("ZERO 0;ZERO 1;ZERO -1;SIZE num 2;ZERO 1;ZERO 2;", "0 7 7 0 0 7");
        judge("SIZE num 2;SIZE box 3;VALUE no() 0;VALUE q() 0;VALUE x() 0;VALUE c(0) 0;VALUE g(0) 0;VALUE g(0,0,0) 0;", "0 0 1 2 2 3 3 3");
        judge("SIZE num 2;SIZE box 3;VALUE g(2,0) 0;VALUE g(0,3) 0;VALUE g(0,-1) 0;VALUE g(1,2) 3;VALUE g(1,2) 2;VALUE c() 2;VALUE c() 3;",
                "0 0 7 7 7 7 0 0 7");
        judge("SIZE num 2;SIZE box 3;VALUE k(2,2,2) 1;VALUE k(2,2,2) 2;VALUE k(2,2,3) 0;VALUE next(1) 1;VALUE next(2) 1;", "0 0 0 7 7 0 7");
        judge("HOLDS no();HOLDS c();LACKS x(0);HOLDS q(0);HOLDS p();HOLDS p(1);LACKS p(1);HOLDS p(0);JUDGE p(x);LACKS p(0);JUDGE p(x);",
                "1 2 2 3 3 7 7 0 [1] 0 [0]");
        // A row's 3 comes ahead of its parts, the parts ahead of k.
        judge("VALUE g(9) 9;VALUE g(9,0) 9;VALUE g(0,0) 9;HOLDS r(9);", "3 7 7 3");
        // Each place of a table is its own.
        judge("SIZE num 4;SIZE box 4;HOLDS r(3,1);JUDGE ?x ?b &(r(x,b),&(=(x,3),#));VALUE next(0) 1;VALUE next(1) 2;VALUE next(2) 3;"
                + "JUDGE !x !b >(r(x,b),=(x,3));JUDGE ?b r(3,b);JUDGE ?b r(1,b);HOLDS q();JUDGE q;LACKS q();JUDGE q;",
                "0 0 0 [0] 0 0 0 [1] [1] [0] 0 [1] 0 [0]");
        judge("SIZE box 4;HOLDS t(1,2,3);VALUE c() 1;JUDGE ?b ?d t(c,b,d);VALUE c() 2;JUDGE ?b ?d t(c,b,d);JUDGE ?b ?d t(b,c,d);"
                + "VALUE c() 3;JUDGE ?b ?d t(b,c,d);JUDGE ?b ?d t(b,d,c);", "0 0 0 [1] 0 [0] [1] 0 [0] [1]");
        judge("SIZE num 2;SIZE box 2;VALUE k(0,1,1) 1;VALUE c() 1;HOLDS p(1);JUDGE ?b p(k(b,c,c));JUDGE p(k(c,c,c));VALUE g(1,0) 1;JUDGE ?x ?b =(g(x,b),c);",
                "0 0 0 0 0 [1] [0] 0 [1]");
    }

    private static void numerals() {
        // next goes 0, 1, 2, 3, 1, 2, 3, ..: for k > 0 the thing is 1 + (k - 1) mod 3.
        String next = "SIZE num 4;VALUE next(0) 1;VALUE next(1) 2;VALUE next(2) 3;VALUE next(3) 1;";
        judge(next + "JUDGE =(0,1);JUDGE =(4,1);JUDGE =(99999,3);JUDGE =(99998,2);JUDGE =(99997,1);JUDGE =(16,1);JUDGE =(17,2);JUDGE =(15,3);JUDGE =(5,4);",
                "0 0 0 0 0 [0] [1] [1] [1] [1] [1] [1] [1] [0]");
        judge(next + "ZERO 2;JUDGE =(0,3);JUDGE =(1,4);JUDGE =(next(7),8);JUDGE !x =(x,0);HOLDS p(2);JUDGE p(0);JUDGE p(99999);JUDGE p(99998);",
                "0 0 0 0 0 0 [1] [1] [1] [0] 0 [1] [1] [0]");
        String round = "SIZE num 4;VALUE next(0) 1;VALUE next(1) 2;VALUE next(2) 3;VALUE next(3) 0;";
        judge(round + "JUDGE =(4,0);JUDGE =(99996,0);JUDGE =(99999,3);JUDGE =(5,1);JUDGE =(6,0);JUDGE !x =(next(next(next(next(x)))),x);",
                "0 0 0 0 0 [1] [1] [1] [1] [0] [1]");
        judge("SIZE num 3;VALUE next(0) 1;VALUE next(1) 0;JUDGE =(99998,0);JUDGE =(99999,1);JUDGE =(99999,0);", "0 0 0 [1] [1] [0]");
    }

    private static void judged() {
        String model = "SIZE num 2;VALUE next(0) 1;HOLDS p(1);";
        judge(model + "JUDGE p(1);JUDGE p(0);JUDGE p(x);JUDGE !x p(x);JUDGE ?x p(x);JUDGE ?x >(p(x),#);", "0 0 0 [1] [0] [0] [0] [1] [1]");
        judge(model + "JUDGE &(p(1),p(1));JUDGE &(p(1),p(0));JUDGE &(p(0),p(1));JUDGE &(p(0),p(0));", "0 0 0 [1] [0] [0] [0]");
        judge(model + "JUDGE |(p(1),p(1));JUDGE |(p(1),p(0));JUDGE |(p(0),p(1));JUDGE |(p(0),p(0));", "0 0 0 [1] [1] [1] [0]");
        judge(model + "JUDGE >(p(1),p(1));JUDGE >(p(1),p(0));JUDGE >(p(0),p(1));JUDGE >(p(0),p(0));", "0 0 0 [1] [0] [1] [1]");
        judge(model + "JUDGE |(p(x),=(x,0));JUDGE !x ?y >(p(x),=(x,y));JUDGE ?y !x =(x,y);JUDGE &(?x p(x),?x >(p(x),#));", "0 0 0 [1] [1] [0] [1]");
        // A VARIABLE that is FREE and bound in one FORMULA is two.
        judge(model + "JUDGE >(p(x),!x =(x,x));JUDGE >(=(x,1),&(?x =(x,0),p(x)));JUDGE &(?x =(x,0),=(x,0));", "0 0 0 [1] [1] [0]");
        judge("JUDGE no;JUDGE x;JUDGE p(b);", "1 4 5");
    }

    private static void variables() {
        judge("JUDGE =(x,y);JUDGE !x !y !z !u !v =(x,v);JUDGE !x !y !z !u !v !w =(x,v);JUDGE !x !x !x !x !x !x q;", "[1] [1] 6 6");
        judge("JUDGE &(&(=(x,y),=(z,u)),=(v,v));JUDGE &(&(=(x,y),=(z,u)),=(v,w));JUDGE !w &(&(=(x,y),=(z,u)),=(v,w));JUDGE !w &(=(x,y),=(z,u));", "[1] 6 6 [1]");
        // Only those around one another count: the most of them.
        judge("JUDGE &(!x !y !z =(x,y),&(!u !v !w =(u,v),!x !y !z !u !v =(x,x)));JUDGE &(=(x,x),!x !y !z !u !v =(x,x));JUDGE &(!x !x =(x,y),=(z,u));", "[1] 6 [1]");
        // Each FREE VARIABLE may be each thing.
        judge("SIZE num 2;SIZE box 2;JUDGE &(=(x,x),=(y,0));JUDGE &(=(y,y),=(x,0));JUDGE &(=(x,x),=(d,c));JUDGE &(=(x,x),=(w,w));", "0 0 [0] [0] [0] [1]");
        // Over four things each: 4 * 4 * 4 * 4 * 4.
        judge("SIZE num 4;VALUE next(0) 1;VALUE next(1) 2;VALUE next(2) 3;JUDGE ?x ?y ?z ?u !v |(|(=(v,x),=(v,y)),|(=(v,z),=(v,u)));"
                + "JUDGE ?y ?z ?u !v |(=(v,y),|(=(v,z),=(v,u)));JUDGE |(|(=(v,x),=(v,y)),|(=(v,z),=(v,u)));", "0 0 0 0 [1] [0] [0]");
    }

    // What is 40 DEEP is judged to its last place, on either side.
    private static void deep() {
        String model = "SIZE num 2;VALUE next(0) 1;VALUE next(1) 0;HOLDS p(1);";
        judge(model + "JUDGE p(" + Bench.repeat("next(", 37) + "0" + Bench.repeat(")", 37) + ");JUDGE p(" + Bench.repeat("next(", 38) + "0"
                + Bench.repeat(")", 38) + ");", "0 0 0 0 [1] [0]");
        String[] heads = {"&", "|", ">"};
        String[] others = {"p(1)", "p(0)", "p(1)"};
        for (int k = 0; k < 3; k++) {
            String front = heads[k] + "(";
            for (int so = 0; so < 2; so++) {
                String right = Bench.repeat(front + others[k] + ",", 38) + "p(" + so + ")" + Bench.repeat(")", 38);
                judge(model + "JUDGE " + right + ";", "0 0 0 0 [" + so + "]");
                String left = Bench.repeat(front, 38) + "p(" + so + ")" + Bench.repeat("," + (k == 2 ? "#" : others[k]) + ")", 38);
                judge(model + "JUDGE " + left + ";", "0 0 0 0 [" + so + "]");
            }
        }
        String equal = Bench.repeat("&(p(1),", 35) + "!x ?y =(next(x),y)" + Bench.repeat(")", 35);
        judge(model + "JUDGE " + equal + ";VALUE next(1) 1;JUDGE " + equal.replace("?y =(next(x),y)", "=(next(x),1)") + ";", "0 0 0 0 [1] 0 [1]");
    }

    private static void resized() {
        judge("SIZE num 2;VALUE next(0) 1;ZERO 1;HOLDS p(1);HOLDS q();VALUE c() 0;JUDGE p(0);SIZE box 1;JUDGE p(0);JUDGE q;JUDGE =(next(0),0);JUDGE ?x p(x);",
                "0 0 0 0 0 0 [1] 0 [0] [0] [1] [0]");
        // The SIZES of other SORTS stay, and what is REFUSED changes nothing.
        judge("SIZE num 3;SIZE box 2;HOLDS p(2);JUDGE ?x p(x);SIZE box 5;JUDGE ?x p(x);SIZE num 3;JUDGE ?x p(x);VALUE next(2) 2;VALUE next(3) 0;",
                "0 0 0 [1] 7 [1] 0 [0] 0 7");
        judge("SIZE num 2;ZERO 1;SIZE num 2;HOLDS p(0);JUDGE p(0);SIZE num 1;HOLDS p(1);", "0 0 0 0 [1] 0 7");
        // A SORT, FUN or REL that is told later is as all are at first.
        judge("SIZE box 3;SORT bag;VAR m bag;FUN n(bag) bag;REL o(bag);JUDGE =(n(m),m);JUDGE o(m);HOLDS o(0);JUDGE o(m);HOLDS o(1);", "0 0 0 0 0 [1] [0] 0 [1] 7");
    }
}
