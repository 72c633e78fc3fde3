/** Promise 4: SEARCH. */
public final class SearchTest {
    private static final String START = "VAR x num;VAR y num;REL p(num);REL a();REL b();REL c();REL d();REL e();";
    private static final String STARTED = "0 0 0 0 0 0 0 0";

    public static void main(String[] args) {
        told("SEARCH |(a,>(a,#));SHOW 0;FROM 0 0;THEOREM t;", "0 [|(a,>(a,#))] 7 0");
        told("SEARCH a;SEARCH #;SEARCH >(#,a);SEARCH >(a,#);SEARCH >(a,a);SEARCH &(>(a,a),b);", "15 15 0 15 0 15");
        told("SEARCH >(>(a,b),>(>(b,#),>(a,#)));SEARCH >(>(a,b),>(>(a,#),>(b,#)));", "0 15");
        // From these, in their order.
        told("ASSUME >(a,b);ASSUME a;ASSUME #;SEARCH b 0 1;FROM 3 0;FROM 3 1;SEARCH b 1 0;FROM 4 0;SEARCH c 0 1;SEARCH c 2;SEARCH b 1;",
                "0 0 0 0 [>(a,b)] [a] 0 [a] 15 0 15");
        // What a p shows counts, though it is not needed, and stays a HYPOTHESIS.
        told("ASSUME c;SEARCH >(a,a) 0 0 0 0;FROM 1 0;FROM 1 1;SEARCH >(a,a) 0 0 0 0 0;SEARCH a 7 0 0 0 0;SEARCH a 0 7;", "0 0 [c] 7 3 3 9");
        letters();
        signs();
        Bench.done();
    }

    private static void told(String statements, String due) {
        new Bench().check(START + statements, STARTED + " " + due);
    }

    private static void letters() {
        // ALIKE ones are one; what is within a LETTER is not looked at.
        told("SEARCH >(!x p(x),!y p(y));SEARCH >(!x p(x),?x p(x));SEARCH >(p(x),p(y));SEARCH >(=(0,0),=(0,0));SEARCH =(0,0);", "0 15 15 0 15");
        told("SEARCH >(!x &(p(x),a),!y &(p(y),a));SEARCH >(!x &(p(x),a),!x p(x));", "0 15");
        told("SEARCH >(&(&(a,b),&(c,d)),d);SEARCH >(&(&(a,b),&(c,d)),|(d,e));", "0 15");
        told("ASSUME e;SEARCH >(&(&(a,b),&(c,d)),d) 0;ASSUME a;SEARCH >(&(&(a,b),&(c,d)),d) 1;ASSUME &(a,#);SEARCH |(b,|(c,|(d,a))) 3;", "0 15 0 0 0 0");
        // Each of four LETTERS can be the one that does not hold.
        told("SEARCH >(&(a,&(b,c)),d);SEARCH >(&(a,&(b,d)),c);SEARCH >(&(a,&(c,d)),b);SEARCH >(&(b,&(c,d)),a);", "15 15 15 15");
        told("SEARCH >(&(a,&(b,c)),|(d,c));SEARCH |(&(a,b),|(&(a,>(b,#)),|(&(>(a,#),c),>(&(c,>(a,#)),d))));", "0 0");
    }

    private static void signs() {
        // > of a and of 29 more > is 30 signs.
        String thirty = Bench.repeat(">(a,", 30) + "a" + Bench.repeat(")", 30);
        told("SEARCH " + thirty + ";SEARCH >(a," + thirty + ");SEARCH >(>(a,a)," + thirty.substring(4, thirty.length() - 1) + ");", "0 15 15");
        String left = Bench.repeat("&(", 29) + "a" + Bench.repeat(",a)", 29);
        told("SEARCH >(" + left + ",a);SEARCH >(" + left + ",b);SEARCH >(a," + left + ");SEARCH >(a," + left.replace("(a,", "(b,") + ");",
                "0 15 0 15");
        String hash = Bench.repeat(">(#,", 15) + "a" + Bench.repeat(")", 15);
        told("SEARCH " + hash + ";SEARCH >(a," + hash + ");SEARCH >(>(a,#),a);", "0 15 15");
        // Those of a step told twice count twice; those within LETTERS do not count.
        String ten = Bench.repeat("&(a,", 10) + "a" + Bench.repeat(")", 10);
        told("ASSUME " + ten + ";SEARCH a 0 0 0;SEARCH a 0 0 0 0;SEARCH >(a,a) 0 0 0;SEARCH >(a,a) 0 0;", "0 0 15 15 0");
        String within = "!x " + Bench.repeat("&(a,", 35) + "a" + Bench.repeat(")", 35);
        told("SEARCH >(" + within + "," + within + ");", "0");
    }
}
