import java.util.ArrayList;
import java.util.List;

/** Promise 4, WHY: each of 1 to 15, and the order in which a STATEMENT is looked at. */
public final class Promise04WhyTest {
    private static final String START = "SORT box;VAR x num;VAR y num;VAR b box;FUN f(num) num;FUN g(num,box) box;FUN c() box;"
            + "REL p(num);REL q();REL r(num,box);AXIOM ax #;SIZE num 2;ASSUME q;ASSUME |(q,q);ASSUME p(0);";
    private static final String STARTED = "0 0 0 0 0 0 0 0 0 0 0 0 0 0 0";
    private static final String GREAT = Bench.wide(401);

    // What an operand may be: first a good one, then bad ones with why.
    private static final String[] NEW = {"nn", "box:1", "x:1", "f:1", "p:1", "ax:1", "num:1", "next:1"};
    private static final String[] SORT = {"num", "no:1", "x:2", "f:2", "p:2", "ax:2"};
    private static final String[] VARIABLE = {"x", "no:1", "box:2", "f:2", "q:2", "ax:2"};
    private static final String[] FACT = {"ax", "no:1", "x:2", "q:2", "num:2", "next:2"};
    private static final String[] SORTS = {"(num,box)", "(no):1", "(num,x):2", "(num,num,num,num):3", "(no,x,no,no):3", "(x,no):2", "(no,x):1"};
    private static final String[] VARIABLES = {"(x,b)", "(no):1", "(x,f):2", "(x,x):3", "(no,no):3", "(x,y,b,no):3", "(no,f,no):3", "(no,f):1", "(f,no):2"};
    private static final String[] FORMULA = {"q", "no:1", "no(x):1", "box:2", "p:3", "q(x):3", "x:4", "p(q):4", "p(b):5", "=(x,b):5", "p(-1):7",
        "p(100000):7", GREAT + ":6"};
    private static final String[] TERM = {"x", "no:1", "ax:2", "f:3", "f(x,x):3", "q:4", "#:4", "f(#):4", "f(b):5", "-1:7", "100000:7", "f(999999):7"};
    private static final String[] THING = {"x", "no:1", "ax:2", "f:3", "f(#):4", "f(b):5", "-1:7", GREAT + ":6"};
    private static final String[] STEP = {"0", "-1:9", "3:9", "999999:9", "-999999:9"};
    private static final String[] OR_STEP = {"1", "-1:9", "3:9"};

    public static void main(String[] args) {
        operands();
        told();
        full();
        great();
        nothingElse();
        each();
        Bench.done();
    }

    private static void operands() {
        Bench.sentence("its THINGS, NAMES, and NUMBERS by 1 to 7, in the order in which they stand; then p, q, w by 9, in order");
        all("SORT", "0", NEW);
        all("FUN", "0", NEW, SORTS, SORT);
        all("REL", "0", NEW, SORTS);
        all("VAR", "0", NEW, SORT);
        all("AXIOM", "0", NEW, FORMULA);
        all("DEFINE", "0", NEW, VARIABLES, FORMULA);
        all("THEOREM", "14", NEW);
        all("SHOW", "[q]", STEP);
        all("FROM", "[q]", STEP, new String[] {"0"});
        all("FROM", "7", STEP, new String[] {"1"});
        all("FROM", "7", STEP, new String[] {"-1"});
        all("TELL", "[#]", FACT);
        all("ALIKE", "[1]", THING, THING);
        all("PUT", "[q]", FORMULA, VARIABLE, TERM);
        all("PUT", "5", FORMULA, new String[] {"b", "no:1", "f:2"}, TERM);
        all("SIZE", "0", SORT, new String[] {"2", "0:7", "5:7", "-1:7", "999999:7"});
        all("ZERO", "0", new String[] {"1", "2:7", "-1:7"});
        all("VALUE", "0", new String[] {"f", "no:1", "x:2", "q:2", "box:2"}, new String[] {"(1)", "():3", "(9,9):3", "(0,0):3", "(2):7", "(-1):7"},
                new String[] {"1", "2:7", "-1:7"});
        all("VALUE", "0", new String[] {"g", "no:1", "p:2"}, new String[] {"(1,0)", "(0):3", "(2,0):7", "(0,1):7", "(2,1):7", "(9,9,9):3"},
                new String[] {"0", "1:7"});
        for (String word : new String[] {"HOLDS", "LACKS"}) {
            all(word, "0", new String[] {"r", "no:1", "x:2", "f:2", "ax:2"}, new String[] {"(1,0)", "():3", "(9):3", "(0,0,0):3", "(2,0):7", "(0,1):7", "(0,-1):7"});
            all(word, "0", new String[] {"q", "no:1", "num:2"}, new String[] {"()", "(0):3", "(9):3"});
        }
        all("JUDGE", "[0]", FORMULA);
        steps();
    }

    private static void steps() {
        all("ASSUME", "0", FORMULA);
        all("BOTH", "0", STEP, STEP);
        all("LEFT", "10", STEP);
        all("RIGHT", "10", STEP);
        all("FIRST", "0", STEP, FORMULA);
        all("SECOND", "0", STEP, FORMULA);
        all("CASE", "0", OR_STEP, STEP, STEP);
        all("APPLY", "10", STEP, STEP);
        all("DISCHARGE", "0", STEP, FORMULA);
        all("GENERALISE", "0", STEP, VARIABLE);
        all("SPECIALISE", "10", STEP, TERM);
        all("WITNESS", "10", STEP, TERM, FORMULA);
        all("WITNESS", "0", STEP, TERM, new String[] {"?x q", "?no q:1", "?q q:2", "?x p:3", "?x x:4", "?x r(x,x):5", "?x p(-1):7"});
        all("OPEN", "10", STEP, STEP, VARIABLE);
        all("SAME", "0", TERM);
        all("REPLACE", "10", STEP, STEP, VARIABLE, FORMULA);
        all("ABSURD", "10", STEP, FORMULA);
        // That v is of SORT num hangs on no step: its 5 stands among the others.
        all("INDUCTION", "11", STEP, STEP, new String[] {"x", "no:1", "f:2", "b:5"}, FORMULA);
        all("COUNT", "0", new String[] {"0", "-1:7", "99999:7", "999999:7"});
        all("USE", "0", FACT);
        all("SEARCH", "15", FORMULA, new String[] {"", "0 0 0 0 0:3", "99 99 99 99 99:3", "0 0 0 0 0 0 0 0:3", "3:9", "0 0 0 3:9", "-1 0 0 0:9"});
        all("SEARCH", "0", FORMULA, new String[] {"0", "0 1 2 0 -1:3", "0 99 0:9"});
    }

    /** Does a STATEMENT with every choice of its operands; what all good ones answer is given. */
    private static void all(String word, String good, String[]... operands) {
        List<String> texts = new ArrayList<>(List.of(word));
        List<String> whys = new ArrayList<>(List.of("0"));
        for (String[] operand : operands) {
            List<String> nextTexts = new ArrayList<>();
            List<String> nextWhys = new ArrayList<>();
            for (int k = 0; k < texts.size(); k++) {
                for (String choice : operand) {
                    String[] two = choice.split(":");
                    nextTexts.add(texts.get(k) + " " + two[0]);
                    nextWhys.add(first(whys.get(k), two.length > 1 ? two[1] : "0"));
                }
            }
            texts = nextTexts;
            whys = nextWhys;
        }
        StringBuilder text = new StringBuilder(START);
        StringBuilder due = new StringBuilder(STARTED);
        for (int k = texts.size() - 1; k >= 0; k--) {
            if (text.length() + texts.get(k).length() > 3990) {
                new Bench().check(text.toString(), due.toString());
                text = new StringBuilder(START);
                due = new StringBuilder(STARTED);
            }
            text.append(texts.get(k)).append(';');
            due.append(' ').append(whys.get(k).equals("0") ? good : whys.get(k));
        }
        new Bench().check(text.toString(), due.toString());
    }

    // 9 stands behind all that is told by operands.
    private static String first(String before, String now) {
        return before.equals("0") || before.equals("9") && !now.equals("0") ? now : before;
    }

    private static void told() {
        Bench.sentence("then in the order told below (SORTS that hang on a step, by 5, too)");
        String two = "SORT box;VAR x num;VAR y num;VAR b box;FUN h(box) box;REL p(num);REL e(num,num);REL r(num,box);REL q();";
        String twoDue = "0 0 0 0 0 0 0 0 0 ";
        // CASE: 10, then 11.
        new Bench().check(two + "ASSUME q;ASSUME p(x);ASSUME |(q,q);CASE 0 0 1;CASE 2 0 1;CASE 2 1 1;", twoDue + "0 0 0 10 11 0");
        // APPLY: 10, then 11.
        new Bench().check(two + "ASSUME q;ASSUME >(p(x),q);ASSUME p(x);APPLY 0 0;APPLY 1 0;APPLY 1 2;", twoDue + "0 0 0 10 11 0");
        // SPECIALISE: 10, then 5, then 13: with b in place of x there would be no other VARIABLE left for !b.
        new Bench().check(two + "ASSUME ?x !b r(x,b);SPECIALISE 0 b;ASSUME !x !b r(x,b);SPECIALISE 1 h(b);ASSUME !x !y e(x,y);SPECIALISE 2 y;SPECIALISE 2 x;",
                twoDue + "0 10 0 5 0 13 0");
        // WITNESS: 10, then 5, then 13, then 11.
        new Bench().check(two + "ASSUME q;WITNESS 0 b !x !b r(x,b);WITNESS 0 b ?x !b r(x,b);WITNESS 0 y ?x !y e(x,y);WITNESS 0 x ?x !y e(x,y);WITNESS 0 x ?x q;",
                twoDue + "0 10 5 13 11 0");
        // OPEN: 10, then 5, then 13, then 12.
        new Bench().check(two + "ASSUME !x !b r(x,b);ASSUME ?x !b r(x,b);ASSUME ?x !y e(x,y);ASSUME p(y);OPEN 0 3 b;OPEN 1 3 b;OPEN 2 3 y;OPEN 1 3 y;OPEN 1 3 x;",
                twoDue + "0 0 0 0 10 5 13 12 0");
        // REPLACE: 10, then 5, then 13 of t, then 11, then 13 of u.
        new Bench().check(two + "ASSUME q;ASSUME =(h(b),b);ASSUME =(y,0);ASSUME =(0,y);ASSUME !y e(0,y);REPLACE 0 0 y !y e(x,y);REPLACE 1 0 x !b r(x,b);"
                + "REPLACE 2 0 x !y e(x,y);REPLACE 3 0 x !y e(x,y);REPLACE 3 4 x !y e(x,y);VAR z num;REPLACE 3 4 x !y e(x,y);",
                twoDue + "0 0 0 0 0 10 5 13 11 13 0 0");
        // SEARCH: 3 ahead of 9, 9 ahead of 15.
        new Bench().check("SEARCH # 0 0 0 0 0;SEARCH # 0 0 0 0;SEARCH #;", "3 9 15");
        // THEOREM: 1, then 9, then 14.
        new Bench().check("THEOREM num;THEOREM t;ASSUME #;THEOREM num;THEOREM t;DISCHARGE 0 #;THEOREM num;THEOREM t;THEOREM t;", "1 9 0 1 14 0 1 0 1");
        // DEFINE: 12, then 6.
        String wide = Bench.wide(196);
        new Bench().check("VAR x num;VAR y num;REL p(num);DEFINE d(y) &(=(x,x)," + wide + ");DEFINE d(x) &(=(x,x)," + wide + ");DEFINE d(x) " + wide + ";",
                "0 0 0 12 6 0");
        // GENERALISE: 12, then 6.
        new Bench().check("VAR x num;VAR y num;REL p(num);ASSUME &(" + Bench.wide(397) + ",p(x));GENERALISE 0 x;GENERALISE 0 y;", "0 0 0 0 12 6");
    }

    // In a proof that has 300 steps each why comes ahead of 8.
    private static void full() {
        Bench.sentence("6 of what is made, then 8, last");
        String start = "SORT box;VAR x num;VAR y num;VAR b box;REL p(num);REL e(num,num);REL q();AXIOM ax q;"
                + "ASSUME q;ASSUME |(q,q);ASSUME &(q,q);ASSUME >(q,q);ASSUME #;ASSUME !x p(x);ASSUME ?x p(x);ASSUME =(0,0);ASSUME p(0);ASSUME !x >(p(x),p(next(x)));"
                + "ASSUME p(x);ASSUME !x !y e(x,y);ASSUME ?x !y e(x,y);ASSUME =(y,0);";
        Bench bench = new Bench();
        bench.run(start);
        bench.run(Bench.repeat("USEax;", 286));
        Bench.due("steps", bench.object.steps(), 300);
        bench.check("ASSUME q;BOTH 0 0;LEFT 2;RIGHT 2;FIRST 0 q;SECOND 0 q;CASE 1 0 0;APPLY 3 0;DISCHARGE 0 q;GENERALISE 0 x;SPECIALISE 5 0;WITNESS 8 0 ?x p(x);"
                + "OPEN 6 0 x;SAME 0;REPLACE 7 8 x p(x);ABSURD 4 q;INDUCTION 8 9 x p(x);COUNT 0;USE ax;SEARCH q 0;", "8 8 8 8 8 8 8 8 8 8 8 8 8 8 8 8 8 8 8 8");
        bench.check("ASSUME no;BOTH 0 300;LEFT 0;RIGHT 0;FIRST 0 x;SECOND 300 q;CASE 0 0 0;CASE 1 0 1;APPLY 0 0;APPLY 3 1;DISCHARGE 300 q;GENERALISE 10 x;"
                + "SPECIALISE 0 0;SPECIALISE 5 b;SPECIALISE 11 y;WITNESS 8 0 q;WITNESS 8 b ?x p(x);WITNESS 8 y ?x !y e(x,y);WITNESS 8 1 ?x p(x);",
                "1 9 10 10 4 9 10 11 10 11 9 12 10 5 13 10 5 13 11");
        bench.check("OPEN 0 0 x;OPEN 6 0 b;OPEN 12 0 y;OPEN 6 10 x;SAME q;REPLACE 0 0 x q;REPLACE 7 8 b p(x);REPLACE 13 0 x !y e(x,y);REPLACE 7 8 x q;"
                + "ABSURD 0 q;INDUCTION 8 9 b q;INDUCTION 0 9 x p(x);INDUCTION 8 8 x p(x);COUNT -1;USE q;SEARCH # 0 0 0 0 0;SEARCH # 300;SEARCH #;",
                "10 5 13 12 4 10 5 13 11 10 5 11 11 7 2 3 9 15");
        bench.check("SAME " + Bench.nexts(38, "0") + ";SAME " + Bench.nexts(39, "0") + ";FIRST 0 " + Bench.deep(39) + ";FIRST 0 " + Bench.deep(40) + ";DISCHARGE 0 "
                + Bench.deep(40) + ";", "8 6 8 6 6");
        Bench.due("steps", bench.object.steps(), 300);
        Bench.due("refusals(8)", bench.object.refusals(8), 22);
    }

    private static void great() {
        Bench.sentence("6 of what is made, then 8, last: of DEFINE, PUT, and of what has 21 HYPOTHESES");
        StringBuilder text = new StringBuilder("VAR x num;REL p(num);");
        for (int k = 0; k < 20; k++) {
            text.append("DEFINE d").append(k).append("() #;");
        }
        Bench bench = new Bench();
        bench.run(text.toString().replaceFirst("DEFINE d0\\(\\) #;", ""));
        bench.check("DEFINE e() " + Bench.deep(39) + ";DEFINE e() p(x);DEFINE e() " + Bench.deep(38) + ";", "6 12 8");
        StringBuilder many = new StringBuilder("REL p(num);");
        for (int k = 0; k < 21; k++) {
            many.append("ASSUME p(").append(k).append(");");
        }
        many.append("ASSUME ").append(Bench.deep(40)).append(";BOTH 0 1;");
        for (int k = 2; k < 20; k++) {
            many.append("BOTH ").append(20 + k).append(' ').append(k).append(';');
        }
        // Step 40 has 20 HYPOTHESES and is 21 DEEP; step 21 is 40 DEEP.
        Bench crowded = new Bench();
        crowded.run(many.toString());
        Bench.due("hypotheses(40)", crowded.object.hypotheses(40), 20);
        crowded.check("BOTH 40 20;BOTH 40 21;BOTH 21 40;BOTH 40 19;", "8 6 6 0");
    }

    private static void nothingElse() {
        Bench.sentence("if it is REFUSED, why, alone: then it does nothing else");
        Bench bench = new Bench();
        bench.check(START, STARTED);
        String refused = "SORT x;FUN nn(num,no) num;FUN nn() no;REL nn(no);VAR nn no;AXIOM nn no;AXIOM nn x;DEFINE nn(x) r(x,b);DEFINE nn(x,x) q;THEOREM nn;"
                + "SHOW 9;FROM 0 1;TELL q;ALIKE no q;PUT q x b;SIZE box 5;SIZE no 2;ZERO 2;VALUE f(2) 0;VALUE f(0) 2;VALUE c(0) 0;HOLDS p(2);HOLDS p();LACKS p(2);"
                + "JUDGE no;ASSUME no;BOTH 0 9;LEFT 0;FIRST 9 q;CASE 0 0 0;APPLY 0 0;DISCHARGE 9 q;GENERALISE 9 x;SPECIALISE 0 x;WITNESS 0 x q;OPEN 0 0 x;SAME no;"
                + "REPLACE 0 0 x q;ABSURD 0 q;INDUCTION 0 0 x q;COUNT -1;USE no;SEARCH #;";
        String whys = "1 1 1 1 1 1 4 12 3 14 9 7 2 1 5 7 1 7 7 7 3 7 3 7 1 1 9 10 9 10 10 9 9 10 10 10 1 10 10 11 7 1 15";
        bench.check("VALUE f(0) 1;HOLDS p(1);ZERO 1;VALUE next(1) 1;", "0 0 0 0");
        bench.check(refused, whys);
        Bench.due("outputs", bench.object.outputs(), whys.split(" ").length);
        Bench.due("steps", bench.object.steps(), 3);
        Bench.due("facts", bench.object.facts(), 1);
        Bench.due("hypotheses(2)", bench.object.hypotheses(2), 1);
        Bench.due("refusals(0)", bench.object.refusals(0), 19);
        bench.check("SHOW 0;SHOW 1;SHOW 2;TELL ax;JUDGE p(0);JUDGE p(next(0));JUDGE =(f(x),0);JUDGE =(x,0);USE nn;SORT nn;VAR nn num;",
                "[q] [|(q,q)] [p(0)] [#] [1] [1] [0] [0] 1 0 1");
    }

    // One STATEMENT for each number, and one that is like it and is not REFUSED.
    private static void each() {
        Bench.sentence("WHY, by its number");
        Bench bench = new Bench();
        bench.check("VAR x num;SORT x;SORT y;", "0 1 0");
        bench.check("VAR w x;VAR w num;", "2 0");
        bench.check("SAME next;SAME next(0);", "3 0");
        bench.check("ASSUME x;ASSUME =(x,x);", "4 0");
        bench.check("VAR u y;ASSUME =(x,u);ASSUME =(u,u);", "0 5 0");
        bench.check("ASSUME " + Bench.repeat("&(", 39) + "#" + Bench.repeat(",#)", 39) + ";DISCHARGE 3 #;DISCHARGE 2 #;", "0 6 0");
        bench.check("COUNT -1;COUNT 0;", "7 0");
        bench.check("SORT s;SORT t;SORT v;SORT z;SORT zz;", "0 0 0 0 8");
        bench.check("SHOW 6;SHOW 5;", "9 [=(next(0),1)]");
        bench.check("LEFT 2;LEFT 3;", "10 0");
        bench.check("APPLY 4 2;ASSUME #;APPLY 4 7;", "11 0 0");
        bench.check("GENERALISE 1 x;GENERALISE 0 x;", "12 0");
        bench.check("REL e(num,num);PUT !w e(x,w) x w;VAR ww num;PUT !w e(x,w) x w;", "0 13 0 [!ww e(w,ww)]");
        bench.check("ASSUME #;THEOREM n;DISCHARGE 10 #;THEOREM n;", "0 14 0 0");
        bench.check("SEARCH #;SEARCH >(#,#);", "15 0");
        for (int why = 1; why <= 15; why++) {
            Bench.due("refusals(" + why + ")", bench.object.refusals(why), 1);
        }
    }
}
