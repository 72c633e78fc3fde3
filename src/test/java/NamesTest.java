/** Promise 4: NAMES, TERMS and FORMULAS, and the order in which they are REFUSED. */
public final class NamesTest {
    private static final String START = "SORT box;VAR x num;VAR b box;FUN f(num) num;FUN g(num,box) box;FUN c() box;"
            + "REL p(num);REL q();REL r(num,box);REL s(box,box,box);AXIOM ax #;";
    private static final String STARTED = "0 0 0 0 0 0 0 0 0 0 0";

    public static void main(String[] args) {
        told();
        limits();
        terms();
        order();
        places();
        Bench.done();
    }

    private static void refused(String statements, String whys) {
        new Bench().check(START + statements, STARTED + " " + whys);
    }

    private static void told() {
        // 1: known already, whatever its kind.
        refused("SORT box;SORT x;SORT f;SORT p;SORT ax;SORT num;SORT next;", "1 1 1 1 1 1 1");
        refused("VAR box num;FUN x() num;REL f();AXIOM p #;DEFINE q() #;THEOREM ax;", "1 1 1 1 1 1");
        // 1: not known; 2: another kind.
        refused("VAR y no;VAR y x;VAR y f;VAR y p;VAR y ax;", "1 2 2 2 2");
        refused("FUN h(no) num;FUN h(x) num;FUN h() no;FUN h() q;FUN h(num,no,x) num;FUN h(num,x,no) num;", "1 2 1 2 1 2");
        refused("REL h(no);REL h(f);REL h(h);VAR h h;FUN h() h;", "1 2 1 1 1");
        // 3 of a row comes first; n comes ahead of it, s behind.
        refused("REL h(no,no,no,no);FUN h(no,no,no,no) no;REL h(num,num,num,num);FUN q(num,num,num,num) num;", "3 3 3 1");
        refused("FUN h(box,box,box) no;REL h(box,box,box);REL h();", "1 0 1");
    }

    private static void limits() {
        StringBuilder text = new StringBuilder();
        StringBuilder due = new StringBuilder();
        many(text, due, "SORT s", ";", 5);
        many(text, due, "FUN f", "(num) s0;", 19);
        many(text, due, "REL r", "(s0,num);", 20);
        many(text, due, "VAR v", " num;", 30);
        new Bench().check(text.toString(), due.toString().trim());
        // A DEFINE is a REL and a FACT.
        StringBuilder facts = new StringBuilder();
        StringBuilder told = new StringBuilder();
        many(facts, told, "DEFINE d", "() #;", 20);
        facts.append("REL r();");
        told.append(" 8");
        for (int k = 0; k < 20; k++) {
            facts.append("AXIOM a").append(k).append(" #;");
            told.append(" 0");
        }
        facts.append("AXIOM b #;SEARCH >(#,#);THEOREM t;AXIOM b p;USE a19;SHOW 1;");
        told.append(" 8 0 8 1 0 [#]");
        Bench bench = new Bench().check(facts.toString(), told.toString().trim());
        Bench.due("facts", bench.object.facts(), 40);
        // FULL comes last, and what is FULL is not known.
        StringBuilder rels = new StringBuilder();
        StringBuilder was = new StringBuilder();
        many(rels, was, "AXIOM a", " #;", 40);
        rels.append("DEFINE d() #;DEFINE d() x;USE d;ASSUME d;");
        was.append(" 8 1 1 1");
        new Bench().check(rels.toString(), was.toString().trim());
    }

    private static void many(StringBuilder text, StringBuilder due, String front, String back, int most) {
        for (int k = 0; k <= most; k++) {
            text.append(front).append(k).append(back);
            due.append(k < most ? " 0" : " 8");
        }
    }

    private static void terms() {
        refused("ASSUME p(x);ASSUME p(f(f(x)));ASSUME p(0);ASSUME p(99999);ASSUME q;ASSUME r(1,c);ASSUME s(b,c,g(x,b));",
                "0 0 0 0 0 0 0");
        refused("ASSUME =(x,0);ASSUME =(b,c);ASSUME &(q,#);ASSUME |(q,q);ASSUME >(q,q);ASSUME !x p(x);ASSUME ?b r(0,b);",
                "0 0 0 0 0 0 0");
        refused("ASSUME no;ASSUME no(x);ASSUME box;ASSUME box(x);ASSUME ax;ASSUME num;", "1 1 2 2 2 2");
        refused("ASSUME p;ASSUME p(x,x);ASSUME q(x);ASSUME p(f);ASSUME p(x(x));ASSUME =(c(x),b);ASSUME r(x);", "3 3 3 3 3 3 3");
        refused("ASSUME x;ASSUME 0;ASSUME f(x);SAME q;SAME #;SAME !x q;ASSUME p(q);ASSUME p(#);ASSUME &(x,q);ASSUME &(q,x);",
                "4 4 4 4 4 4 4 4 4 4");
        refused("ASSUME !x x;ASSUME ?x 0;ASSUME =(q,x);ASSUME =(x,q);ASSUME >(#,c);ASSUME |(0,#);", "4 4 4 4 4 4");
        refused("ALIKE !x 0 0;ALIKE =(!x 0,0) 0;ALIKE &(0,#) #;ALIKE p(#) #;", "4 4 4 4");
        refused("ASSUME p(b);ASSUME r(b,b);ASSUME r(x,x);ASSUME =(x,b);ASSUME =(b,0);ASSUME p(c);SAME f(b);", "5 5 5 5 5 5 5");
        refused("ASSUME p(-1);ASSUME p(100000);ASSUME =(0,-1);SAME 999999;SAME -0;SHOW 0;", "7 7 7 7 0 [=(0,0)]");
        refused("ASSUME !no q;ASSUME !box q;ASSUME !f q;ASSUME ?ax q;ASSUME ?q q;", "1 2 2 2 2");
        // Digits are a NUMERAL: it has no other form.
        refused("SAME 00042;SHOW 0;ALIKE 007 7;", "0 [=(42,42)] [1]");
    }

    private static void order() {
        // Parts come ahead of the NAME, the NAME behind ! ahead of its part.
        refused("ASSUME no(-1);ASSUME no(box);ASSUME p(no,100000);ASSUME !no box;ASSUME !box no;ASSUME !x no;", "7 2 1 1 2 1");
        refused("ASSUME p(q,x);ASSUME p(b,x);ASSUME r(q,x);ASSUME r(b,q);ASSUME r(x,q);ASSUME s(b,x,q);ASSUME s(b,q,x);",
                "3 3 4 5 4 5 4");
        refused("ASSUME &(p(b),no);ASSUME &(no,p(b));ASSUME =(p(b),q);ASSUME &(x,-1);", "5 1 5 7");
        // STATEMENTS: operands as they stand, then steps.
        refused("AXIOM no2 no;AXIOM ax no;AXIOM n3 x;THEOREM ax;THEOREM n3;", "1 1 4 1 9");
        refused("FIRST 7 no;FIRST 7 x;FIRST 7 q;BOTH 7 8;CASE 0 0 0;GENERALISE 7 no;GENERALISE 7 f;GENERALISE 7 x;",
                "1 4 9 9 9 1 2 9");
        refused("WITNESS 7 no x;WITNESS 7 q no;WITNESS 7 x x;WITNESS 7 x q;WITNESS 7 x -1;", "1 4 4 9 7");
        refused("REPLACE 7 8 no no;REPLACE 7 8 q no;REPLACE 7 8 x no;REPLACE 7 8 x x;REPLACE 7 8 x q;", "1 2 1 4 9");
        // That v is of SORT num hangs on no step.
        refused("INDUCTION 7 8 b no;INDUCTION 7 8 q no;INDUCTION 7 8 x no;INDUCTION 7 8 b q;INDUCTION 7 8 x q;", "5 2 1 5 9");
        refused("PUT x b no;PUT q no no;PUT q f no;PUT q x no;PUT q x q;PUT q x b;PUT q b x;PUT q x 0;", "4 1 2 1 4 5 5 [q]");
        refused("ALIKE no x;ALIKE x no;ALIKE x q;ALIKE q q;ALIKE x x;", "1 1 [0] [1] [1]");
        refused("SHOW 0;SHOW -1;FROM 0 0;FROM -1 -1;TELL no;TELL q;USE no;USE x;", "9 9 9 9 1 2 1 2");
        refused("SEARCH no 1 2 3 4 5;SEARCH x 1 2 3 4 5;SEARCH q 1 2 3 4 5;SEARCH q 1 2 3 4;", "1 4 3 9");
        refused("COUNT -1;COUNT 99999;COUNT 99998;SHOW 0;COUNT 0;SHOW 1;", "7 7 0 [=(next(99998),99999)] 0 [=(next(0),1)]");
        refused("DEFINE ax(no) no;DEFINE d(no,no) no;DEFINE d(no,x,b,x) no;DEFINE d(x,no,f) no;DEFINE d(x,f,no) no;", "1 3 3 1 2");
        refused("DEFINE d(x) no;DEFINE d(x) x;DEFINE d(x) d(x);DEFINE d(x) r(x,b);DEFINE d(x,b) r(x,b);", "1 4 1 12 0");
    }

    private static void places() {
        // 400 PLACES are not too many, 401 are; a NAME behind ! is none.
        StringBuilder text = new StringBuilder("REL t(num,num,num);REL u(num);");
        String five = "t(0,0,0)";
        String wide = "&(&(" + five + "," + five + "),&(" + five + "," + five + "))";
        String more = "&(&(" + wide + "," + wide + "),&(" + wide + "," + wide + "))";
        Bench.due("79 PLACES", places(more), 79);
        String great = "&(&(" + more + "," + more + "),&(" + more + "," + more + "))";
        Bench.due("319 PLACES", places(great), 319);
        String whole = "&(" + great + "," + more + ")";
        Bench.due("399 PLACES", places(whole), 399);
        text.append("VAR x num;ASSUME !x ").append(whole).append(";ASSUME !x !x ").append(whole).append(";");
        new Bench().check(text.toString(), "0 0 0 0 6");
        // 6 comes behind 1 to 5 of itself, and ahead of what stands behind it.
        String most = "!x " + whole;
        String start = "REL t(num,num,num);REL u(num);VAR x num;";
        new Bench().check(start + "ASSUME u(" + most + ");", "0 0 0 4");
        new Bench().check(start + "ASSUME &(" + most + ",no);", "0 0 0 1");
        new Bench().check(start + "ASSUME &(!x " + most + ",no);", "0 0 0 6");
        new Bench().check(start + "SAME " + most + ";SAME !x " + "#;", "0 0 0 4 4");
        new Bench().check(start + "SAME !x " + most + ";", "0 0 0 6");
        // Parts without end are looked at, and then are too many.
        new Bench().check(start + "ASSUME u(" + Bench.repeat("0,", 600) + "0);", "0 0 0 3");
        new Bench().check(start + "ASSUME u(" + Bench.repeat("0,", 600) + "no);", "0 0 0 1");
        new Bench().check(start + "ASSUME no(" + Bench.repeat("0,", 600) + "0);", "0 0 0 1");
    }

    private static int places(String text) {
        int all = 0;
        for (char c : text.toCharArray()) {
            all += c == '&' || c == 't' || c == '0' ? 1 : 0;
        }
        return all;
    }
}
