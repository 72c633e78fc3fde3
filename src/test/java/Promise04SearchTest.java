/** Promise 4, STEPS: SEARCH. */
public final class Promise04SearchTest {
    private static final String START = "VAR x num;VAR y num;REL p(num);REL a();REL b();REL c();REL d();REL e();";
    private static final String STARTED = "0 0 0 0 0 0 0 0";

    public static void main(String[] args) {
        told("SEARCH |(a,>(a,#));SHOW 0;FROM 0 0;THEOREM t;", "0 [|(a,>(a,#))] 7 0");
        told("SEARCH a;SEARCH #;SEARCH >(#,a);SEARCH >(a,#);SEARCH >(a,a);SEARCH &(>(a,a),b);", "15 15 0 15 0 15");
        told("SEARCH >(>(a,b),>(>(b,#),>(a,#)));SEARCH >(>(a,b),>(>(a,#),>(b,#)));", "0 15");
        // From these, in their order.
        told("ASSUME >(a,b);ASSUME a;ASSUME #;SEARCH b 0 1;FROM 3 0;FROM 3 1;SEARCH b 1 0;FROM 4 0;SEARCH c 0 1;SEARCH c 2;SEARCH b 1;",
                "0 0 0 0 [>(a,b)] [a] 0 [a] 15 0 15");
        // What a p shows counts, though it is not needed, and stays a HYPOTHESIS.
        told("ASSUME c;SEARCH >(a,a) 0 0 0 0;FROM 1 0;FROM 1 1;SEARCH >(a,a) 0 0 0 0 0;SEARCH a 7 0 0 0 0;SEARCH a 0 7;", "0 0 [c] 7 3 3 9");
        letters();
        signs();
        fourSteps();
        fourLetters();
        thirtySigns();
        eachSign();
        Bench.done();
    }

    private static void told(String statements, String due) {
        new Bench().check(START + statements, STARTED + " " + due);
    }

    private static void letters() {
        // ALIKE ones are one; what is within a LETTER is not looked at.
        told("SEARCH >(!x p(x),!y p(y));SEARCH >(!x p(x),?x p(x));SEARCH >(p(x),p(y));SEARCH >(=(0,0),=(0,0));SEARCH =(0,0);", "0 15 15 0 15");
        told("SEARCH >(!x &(p(x),a),!y &(p(y),a));SEARCH >(!x &(p(x),a),!x p(x));", "0 15");
        told("SEARCH >(&(&(a,b),&(c,d)),d);SEARCH >(&(&(a,b),&(c,d)),|(d,e));", "0 15");
        told("ASSUME e;SEARCH >(&(&(a,b),&(c,d)),d) 0;ASSUME a;SEARCH >(&(&(a,b),&(c,d)),d) 1;ASSUME &(a,#);SEARCH |(b,|(c,|(d,a))) 3;", "0 15 0 0 0 0");
        // Each of four LETTERS can be the one that does not hold.
        told("SEARCH >(&(a,&(b,c)),d);SEARCH >(&(a,&(b,d)),c);SEARCH >(&(a,&(c,d)),b);SEARCH >(&(b,&(c,d)),a);", "15 15 15 15");
        told("SEARCH >(&(a,&(b,c)),|(d,c));SEARCH |(&(a,b),|(&(a,>(b,#)),|(&(>(a,#),c),>(&(c,>(a,#)),d))));", "0 0");
    }

    private static void signs() {
        // > of a and of 29 more > is 30 signs.
        String thirty = Bench.repeat(">(a,", 30) + "a" + Bench.repeat(")", 30);
        told("SEARCH " + thirty + ";SEARCH >(a," + thirty + ");SEARCH >(>(a,a)," + thirty.substring(4, thirty.length() - 1) + ");", "0 15 15");
        String left = Bench.repeat("&(", 29) + "a" + Bench.repeat(",a)", 29);
        told("SEARCH >(" + left + ",a);SEARCH >(" + left + ",b);SEARCH >(a," + left + ");SEARCH >(a," + left.replace("(a,", "(b,") + ");",
                "0 15 0 15");
        String hash = Bench.repeat(">(#,", 15) + "a" + Bench.repeat(")", 15);
        told("SEARCH " + hash + ";SEARCH >(a," + hash + ");SEARCH >(>(a,#),a);", "0 15 15");
        // Those of a step told twice count twice; those within LETTERS do not count.
        String ten = Bench.repeat("&(a,", 10) + "a" + Bench.repeat(")", 10);
        told("ASSUME " + ten + ";SEARCH a 0 0 0;SEARCH a 0 0 0 0;SEARCH >(a,a) 0 0 0;SEARCH >(a,a) 0 0;", "0 0 15 15 0");
        String within = "!x " + Bench.repeat("&(a,", 35) + "a" + Bench.repeat(")", 35);
        told("SEARCH >(" + within + "," + within + ");", "0");
    }

    private static void fourSteps() {
        Bench.sentence("More than 4 p: 3 (ahead of 9)");
        told("ASSUME a;SEARCH a;SEARCH a 0;SEARCH a 0 0;SEARCH a 0 0 0;SEARCH a 0 0 0 0;SEARCH a 0 0 0 0 0;SEARCH a 0 0 0 0 0 0;", "0 15 0 0 0 0 3 3");
        told("SEARCH a 9 9 9 9;SEARCH a 9 9 9 9 9;SEARCH a -1 -1 -1 -1 -1;SEARCH no 9 9 9 9 9;", "9 3 3 1");
        // Each of the four is looked at, by 9 and for what it shows.
        told("ASSUME a;SEARCH a 0 0 0 1;SEARCH a 0 0 1 0;SEARCH a 0 1 0 0;SEARCH a 1 0 0 0;SEARCH a 0 0 0 -1;", "0 9 9 9 9 9");
        told("ASSUME a;ASSUME >(a,b);ASSUME >(b,c);ASSUME >(c,d);SEARCH d 0 1 2 3;SEARCH d 3 2 1 0;SEARCH d 0 1 2;SEARCH d 1 2 3;SEARCH d 0 2 3;SEARCH d 0 1 3;FROM 4 3;FROM 5 3;FROM 4 4;",
                "0 0 0 0 0 0 15 15 15 15 [>(c,d)] [a] 7");
        // And a thousand NUMBERS are too many, not FULL or WRONG.
        told("SEARCH a " + Bench.repeat("0 ", 1000) + ";", "3");
    }

    private static void fourLetters() {
        Bench.sentence("More than 4 LETTERS: 15");
        told("SEARCH >(&(a,&(b,c)),&(c,&(b,a)));SEARCH >(&(a,&(b,&(c,d))),a);SEARCH >(&(a,&(b,&(c,&(d,e)))),a);", "0 0 15");
        // In F and in all the p together; ALIKE ones are one.
        told("ASSUME a;ASSUME b;ASSUME c;ASSUME d;ASSUME e;SEARCH a 0 1 2 3;SEARCH a 0 1 2 4;SEARCH >(a,a) 1 2 3 4;SEARCH >(a,a) 1 2 3;SEARCH &(a,a) 0 0 0 0;",
                "0 0 0 0 0 0 0 15 0 0");
        told("SEARCH >(&(!x p(x),&(!y p(y),&(a,&(b,c)))),?x #);SEARCH >(&(!x p(x),&(!y p(y),&(a,&(b,c)))),a);SEARCH >(&(!x p(x),&(?y p(y),&(a,&(b,c)))),a);", "15 0 15");
        told("SEARCH >(&(=(x,x),&(=(y,y),&(=(0,0),=(1,1)))),=(x,x));SEARCH >(&(=(x,x),&(=(y,y),&(=(0,0),&(=(1,1),=(0,1))))),=(x,x));", "0 15");
        // # is no LETTER.
        told("SEARCH >(&(a,&(b,&(c,&(d,#)))),e);SEARCH >(&(a,&(b,&(c,&(d,#)))),d);", "15 0");
    }

    private static String ands(int signs) {
        return Bench.repeat("&(a,", signs) + "a" + Bench.repeat(")", signs);
    }

    private static void thirtySigns() {
        Bench.sentence("more than 30 of & | > # outside of LETTERS in all (those of a step told twice count twice): 15");
        for (int extra = 0; extra < 2; extra++) {
            String due = extra == 0 ? "0" : "15";
            told("SEARCH >(a," + ands(29 + extra) + ");", due);
            told("SEARCH >(" + ands(29 + extra) + ",a);", due);
            told("SEARCH >(" + ands(14) + "," + ands(15 + extra) + ");", due);
            told("SEARCH " + Bench.repeat(">(a,", 30 + extra) + "a" + Bench.repeat(")", 30 + extra) + ";", due);
            told("SEARCH " + Bench.repeat("|(", 29 + extra) + ">(a,a)" + Bench.repeat(",a)", 29 + extra) + ";", due);
            // 28 &, one > and one # are 30.
            told("SEARCH >(#," + ands(28 + extra) + ");", due);
            told("ASSUME " + ands(30 + extra) + ";SEARCH a 0;", "0 " + due);
            told("ASSUME " + ands(20 + extra) + ";SEARCH " + ands(10) + " 0;", "0 " + due);
            told("ASSUME " + ands(10) + ";SEARCH " + ands(20 + extra) + " 0;", "0 " + due);
            told("ASSUME " + ands(15) + ";SEARCH " + (extra == 0 ? "a" : ">(a,a)") + " 0 0;SEARCH a 0 0 0;", "0 " + due + " 15");
            told("ASSUME " + ands(7) + ";SEARCH " + ands(2 + extra) + " 0 0 0 0;", "0 " + due);
            told("ASSUME " + ands(10) + ";ASSUME " + ands(5) + ";SEARCH " + ands(10 + extra) + " 0 1 1;", "0 0 " + due);
            told("ASSUME #;SEARCH " + ands(26 + extra) + " 0 0 0 0;", "0 " + due);
        }
        // What stands within LETTERS counts nothing: a ! with 37 & in it is one LETTER.
        String letter = "!x " + ands(37);
        told("SEARCH >(" + letter + "," + letter + ");", "0");
        told("ASSUME " + letter + ";SEARCH " + letter + " 0 0 0 0;", "0 0");
    }

    private static void eachSign() {
        Bench.sentence("for each choice of which LETTERS hold (and # does not), F holds if all that the p show do");
        String[] two = {"a", "b"};
        String[] signs = {"&", "|", ">"};
        // Whether sign(a,b) follows from a or >(a,#), and b or >(b,#).
        boolean[][] holds = {{false, false, false, true}, {false, true, true, true}, {true, true, false, true}};
        for (int sign = 0; sign < 3; sign++) {
            for (int choice = 0; choice < 4; choice++) {
                String first = choice >= 2 ? two[0] : ">(a,#)";
                String second = choice % 2 == 1 ? two[1] : ">(b,#)";
                String f = signs[sign] + "(a,b)";
                told("ASSUME " + first + ";ASSUME " + second + ";SEARCH " + f + " 0 1;SEARCH >(" + f + ",#) 0 1;",
                        "0 0 " + (holds[sign][choice] ? "0 15" : "15 0"));
            }
        }
        told("SEARCH #;SEARCH >(#,#);ASSUME #;SEARCH # 1;SEARCH a 1;SEARCH |(#,>(#,a));", "15 0 0 0 0 0");
    }
}
