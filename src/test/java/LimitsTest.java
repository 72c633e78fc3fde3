/** Promises 4, 8 and 9: 300 steps, 20 HYPOTHESES, and what is made too GREAT. */
public final class LimitsTest {
    public static void main(String[] args) {
        steps();
        hypotheses();
        great();
        compared();
        most();
        Bench.done();
    }

    private static void steps() {
        Bench bench = new Bench();
        bench.run(Bench.repeat("ASSUME#;", 299));
        Bench.due("steps", bench.object.steps(), 299);
        bench.check("COUNT 1;COUNT 1;ASSUME #;ASSUME no;LEFT 300;LEFT 0;BOTH 299 299;THEOREM t;", "0 8 8 1 9 10 8 0");
        Bench.due("steps", bench.object.steps(), 300);
        Bench.due("hypotheses(299)", bench.object.hypotheses(299), 0);
        bench.check("DISCHARGE 0 #;SAME 1;USE t;SEARCH >(#,#);SHOW 299;PROOF;USE t;SHOW 0;", "8 8 8 8 [=(next(1),2)] 0 0 [=(next(1),2)]");
        Bench.due("steps", bench.object.steps(), 1);
    }

    private static void hypotheses() {
        StringBuilder text = new StringBuilder("REL p(num);VAR x num;");
        for (int k = 0; k < 22; k++) {
            text.append("ASSUME p(").append(k).append(");");
        }
        text.append("BOTH 0 1;");
        for (int k = 2; k < 20; k++) {
            text.append("BOTH ").append(20 + k).append(' ').append(k).append(";");
        }
        Bench bench = new Bench();
        bench.run(text.toString());
        Bench.due("steps", bench.object.steps(), 41);
        Bench.due("hypotheses(40)", bench.object.hypotheses(40), 20);
        bench.check("BOTH 40 20;BOTH 20 40;BOTH 40 40;BOTH 0 40;BOTH 40 19;FROM 43 0;FROM 43 19;FROM 43 20;", "8 8 0 0 0 [p(0)] [p(19)] 7");
        // Those that go make room for others.
        bench.check("ASSUME |(p(0),p(20));FIRST 40 p(0);FIRST 20 p(0);DISCHARGE 40 p(7);BOTH 47 20;BOTH 48 21;DISCHARGE 40 p(30);",
                "0 0 0 0 0 8 0");
        Bench.due("hypotheses(48)", bench.object.hypotheses(48), 20);
        bench.check("SEARCH #;SEARCH >(#,#) 40 20;SEARCH >(#,#) 40 19;SEARCH #  40 20;", "15 15 15 15");
        bench.check("SEARCH >(#,#) 0 1 2 3;SHOW 50;FROM 50 3;FROM 50 4;", "0 [>(#,#)] [p(3)] 7");
        // 6 comes ahead of 8.
        String deep = Bench.repeat("&(#,", 38) + "#" + Bench.repeat(")", 38);
        bench.check("PROOF;ASSUME " + deep + ";BOTH 0 0;BOTH 1 1;", "0 0 0 6");
        many();
    }

    // q without A and w without B may have 20 each that are left together.
    private static void many() {
        StringBuilder text = new StringBuilder("REL p(num);REL q();ASSUME |(p(98),p(99));ASSUME p(98);ASSUME p(99);");
        for (int k = 0; k < 19; k++) {
            text.append("ASSUME p(").append(k).append(");");
        }
        // Steps 3 .. 21 are p(0) .. p(18); 22 .. 40 gather them onto 1; then onto 2.
        for (int k = 0; k < 19; k++) {
            text.append("BOTH ").append(k == 0 ? 1 : 21 + k).append(' ').append(3 + k).append(';');
        }
        for (int k = 0; k < 19; k++) {
            text.append("BOTH ").append(k == 0 ? 2 : 40 + k).append(' ').append(3 + k).append(';');
        }
        text.append("SAME 0;ASSUME q;BOTH 40 60;BOTH 40 61;BOTH 59 60;");
        Bench bench = new Bench();
        bench.run(text.toString());
        Bench.due("hypotheses(40)", bench.object.hypotheses(40), 20);
        Bench.due("hypotheses(59)", bench.object.hypotheses(59), 20);
        Bench.due("steps", bench.object.steps(), 64);
        bench.check("RIGHT 62;RIGHT 63;CASE 0 64 65;FROM 66 0;FROM 66 19;FROM 66 20;", "0 0 0 [|(p(98),p(99))] [p(18)] 7");
        bench.check("CASE 0 65 64;ASSUME p(50);BOTH 67 64;RIGHT 62;", "8 0 8 0");
    }

    private static void great() {
        // 199 PLACES and 10 DEEP: BOTH of two are 399, and one more is too GREAT.
        String t = "f(0,0,f(0,0,f(0,0,0)))";
        String start = "FUN f(num,num,num) num;REL u(num,num,num);VAR x num;VAR y num;";
        String thirtyOne = "u(" + t + "," + t + "," + t + ")";
        String six = "&(" + thirtyOne + ",&(" + thirtyOne + ",&(" + thirtyOne + ",&(" + thirtyOne + ",&(" + thirtyOne + "," + thirtyOne + ")))))";
        Bench.due("191 PLACES", 6 * 31 + 5, 191);
        String base = "&(#,&(#,&(#,&(#," + six + "))))";
        Bench bench = new Bench();
        bench.check(start + "ASSUME " + base + ";BOTH 0 0;GENERALISE 1 x;GENERALISE 2 x;BOTH 1 1;FIRST 1 #;SECOND 1 #;DISCHARGE 1 #;DISCHARGE 2 #;",
                "0 0 0 0 0 0 0 6 6 6 6 6 6");
        Bench.due("hypotheses(2)", bench.object.hypotheses(2), 1);
        bench.check("DISCHARGE 0 #;LEFT 1;RIGHT 1;BOTH 5 5;SAME " + t + ";", "0 0 0 0 0");
        Bench.due("steps", bench.object.steps(), 8);
        // SPECIALISE and REPLACE: 13 and 5 are told first, then 6.
        String nine = "u(f(x,x,x),f(x,x,x),f(x,x,x))";
        String forty = Bench.repeat("f(0,0,", 15) + "0" + Bench.repeat(")", 15);
        String less = Bench.repeat("f(0,0,", 14) + "0" + Bench.repeat(")", 14);
        Bench.due("418 and 391 PLACES", 4 + 9 * 46 + "/" + (4 + 9 * 43), "418/391");
        new Bench().check(start + "ASSUME !x " + nine + ";SPECIALISE 0 " + forty + ";SPECIALISE 0 " + less + ";SHOW 1;",
                "0 0 0 0 0 6 0 [" + nine.replace("x", less) + "]");
        new Bench().check(start + "ASSUME =(0," + forty + ");ASSUME =(0," + less + ");ASSUME " + nine.replace("x", "0") + ";REPLACE 0 2 x " + nine
                + ";REPLACE 1 2 x " + nine + ";", "0 0 0 0 0 0 0 6 0");
        String t199 = Bench.repeat("f(0,0,", 30) + Bench.repeat("next(", 8) + "0" + Bench.repeat(")", 38);
        new Bench().check(start + "SAME " + t199 + ";SAME next(" + t199 + ");", "0 0 0 0 0 6");
    }

    // 400 PLACES are looked at to the last one.
    private static void most() {
        String start = "REL t(num,num,num);VAR x num;VAR y num;VAR z num;";
        String five = "t(0,0,0)";
        String wide = "&(&(" + five + "," + five + "),&(" + five + "," + five + "))";
        String more = "&(&(" + wide + "," + wide + "),&(" + wide + "," + wide + "))";
        String great = "&(&(" + more + "," + more + "),&(" + more + "," + more + "))";
        String whole = "!x &(" + great + "," + more.substring(0, more.length() - "0)))))".length()) + "y))))))";
        Bench bench = new Bench();
        bench.check(start + "ASSUME " + whole + ";GENERALISE 0 x;GENERALISE 0 y;SPECIALISE 0 z;GENERALISE 1 y;", "0 0 0 0 0 6 12 0 12");
        bench.check("SEARCH " + whole + " 0;SHOW 2;", "0 [" + whole + "]");
        bench.check("SEARCH " + whole.replace("(y", "(0").replace(",y", ",0") + " 0;", "15");
        bench.check("PUT " + whole + " y x;", "[" + whole.replace("!x", "!z").replace(",y)", ",x)") + "]");
        bench.check("JUDGE " + whole + ";ALIKE " + whole + " " + whole.replace("!x", "!z") + ";", "[0] [1]");
        bench.check("ALIKE " + whole + " " + whole.replace(",y)", ",z)") + ";", "[0]");
        bench.check("DISCHARGE 1 " + whole + ";DISCHARGE 2 " + whole.replace("!x", "!z") + ";", "6 6");
    }

    private static void compared() {
        // What is made to be compared may be of any size: 11, not 6.
        String start = "FUN f(num,num,num) num;REL u(num,num,num);VAR x num;VAR y num;REL p(num);";
        String t = Bench.repeat("f(x,x,", 37) + "x" + Bench.repeat(")", 37);
        String p = "p(" + t + ")";
        new Bench().check(start + "ASSUME p(0);WITNESS 0 " + t + " ?x " + p + ";", "0 0 0 0 0 0 11");
        new Bench().check(start + "ASSUME =(" + t + ",0);ASSUME p(0);REPLACE 0 1 x " + p + ";REPLACE 0 1 x p(y);", "0 0 0 0 0 0 0 11 11");
        new Bench().check(start + "ASSUME =(" + t + "," + t + ");ASSUME p(0);REPLACE 0 1 x p(0);SHOW 2;", "0 0 0 0 0 0 0 0 [p(0)]");
        // ABSURD: >(F,#) has more than 400 PLACES if F has 400, and is then no HYPOTHESIS.
        String six = "u(f(x,x,x),f(x,x,x),f(x,x,x))";
        String wide = "&(&(" + six + "," + six + "),&(" + six + "," + six + "))";
        String f = Bench.repeat("&(" + wide + ",", 6) + "&(&(#,#),&(&(#,#),&(&(#,#),&(&(#,#),!x !x !x !x !x !x !x #))))" + Bench.repeat(")", 6);
        Bench.due("F has 360 PLACES", 6 * (4 * 13 + 3 + 1) + 24, 360);
        Bench bench = new Bench();
        bench.check(start + "ASSUME #;ABSURD 0 " + f + ";", "0 0 0 0 0 0 0");
        Bench.due("hypotheses(1)", bench.object.hypotheses(1), 1);
        // INDUCTION compares what has up to 1202 PLACES.
        bench.check("PROOF;ASSUME " + f.replace("(x", "(0").replace(",x", ",0") + ";", "0 0");
        bench.check("ASSUME !x >(#,#);INDUCTION 0 1 x " + f + ";", "0 11");
    }
}
