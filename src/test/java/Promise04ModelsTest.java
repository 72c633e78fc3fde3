/** Promise 4, MODELS. */
public final class Promise04ModelsTest {
    private static final String START = "SORT box;VAR x num;VAR y num;VAR z num;VAR u num;VAR v num;VAR w num;VAR b box;VAR d box;"
            + "FUN g(num,box) box;FUN c() box;FUN k(box,box,box) num;REL p(num);REL q();REL r(num,box);REL t(box,box,box);";
    private static final String STARTED = "0 0 0 0 0 0 0 0 0 0 0 0 0 0 0 0";

    public static void main(String[] args) {
        first();
        told();
        numerals();
        judged();
        variables();
        deep();
        resized();
        sizes();
        thingsOfASort();
        fiveTogether();
        atFirst();
        eachHasItsOwn();
        Bench.done();
    }

    private static void judge(String statements, String due) {
        new Bench().check(START + statements, STARTED + " " + due);
    }

    private static void first() {
        judge("JUDGE =(x,y);JUDGE =(0,99999);JUDGE q;JUDGE p(x);JUDGE !b =(b,c);JUDGE >(q,#);JUDGE #;", "[1] [1] [0] [0] [1] [1] [0]");
    }

    private static void told() {
        judge("SIZE no 1;SIZE x 1;SIZE box 0;SIZE box 5;SIZE box -1;SIZE box 4;SIZE no 9;", "1 2 7 7 7 0 1");
        judge("ZERO 0;ZERO 1;ZERO -1;SIZE num 2;ZERO 1;ZERO 2;", "0 7 7 0 0 7");
        judge("SIZE num 2;SIZE box 3;VALUE no() 0;VALUE q() 0;VALUE x() 0;VALUE c(0) 0;VALUE g(0) 0;VALUE g(0,0,0) 0;", "0 0 1 2 2 3 3 3");
        judge("SIZE num 2;SIZE box 3;VALUE g(2,0) 0;VALUE g(0,3) 0;VALUE g(0,-1) 0;VALUE g(1,2) 3;VALUE g(1,2) 2;VALUE c() 2;VALUE c() 3;",
                "0 0 7 7 7 7 0 0 7");
        judge("SIZE num 2;SIZE box 3;VALUE k(2,2,2) 1;VALUE k(2,2,2) 2;VALUE k(2,2,3) 0;VALUE next(1) 1;VALUE next(2) 1;", "0 0 0 7 7 0 7");
        judge("HOLDS no();HOLDS c();LACKS x(0);HOLDS q(0);HOLDS p();HOLDS p(1);LACKS p(1);HOLDS p(0);JUDGE p(x);LACKS p(0);JUDGE p(x);",
                "1 2 2 3 3 7 7 0 [1] 0 [0]");
        // A row's 3 comes ahead of its parts, the parts ahead of k.
        judge("VALUE g(9) 9;VALUE g(9,0) 9;VALUE g(0,0) 9;HOLDS r(9);", "3 7 7 3");
        // Each place of a table is its own.
        judge("SIZE num 4;SIZE box 4;HOLDS r(3,1);JUDGE ?x ?b &(r(x,b),&(=(x,3),#));VALUE next(0) 1;VALUE next(1) 2;VALUE next(2) 3;"
                + "JUDGE !x !b >(r(x,b),=(x,3));JUDGE ?b r(3,b);JUDGE ?b r(1,b);HOLDS q();JUDGE q;LACKS q();JUDGE q;",
                "0 0 0 [0] 0 0 0 [1] [1] [0] 0 [1] 0 [0]");
        judge("SIZE box 4;HOLDS t(1,2,3);VALUE c() 1;JUDGE ?b ?d t(c,b,d);VALUE c() 2;JUDGE ?b ?d t(c,b,d);JUDGE ?b ?d t(b,c,d);"
                + "VALUE c() 3;JUDGE ?b ?d t(b,c,d);JUDGE ?b ?d t(b,d,c);", "0 0 0 [1] 0 [0] [1] 0 [0] [1]");
        judge("SIZE num 2;SIZE box 2;VALUE k(0,1,1) 1;VALUE c() 1;HOLDS p(1);JUDGE ?b p(k(b,c,c));JUDGE p(k(c,c,c));VALUE g(1,0) 1;JUDGE ?x ?b =(g(x,b),c);",
                "0 0 0 0 0 [1] [0] 0 [1]");
    }

    private static void numerals() {
        // next goes 0, 1, 2, 3, 1, 2, 3, ..: for k > 0 the thing is 1 + (k - 1) mod 3.
        String next = "SIZE num 4;VALUE next(0) 1;VALUE next(1) 2;VALUE next(2) 3;VALUE next(3) 1;";
        judge(next + "JUDGE =(0,1);JUDGE =(4,1);JUDGE =(99999,3);JUDGE =(99998,2);JUDGE =(99997,1);JUDGE =(16,1);JUDGE =(17,2);JUDGE =(15,3);JUDGE =(5,4);",
                "0 0 0 0 0 [0] [1] [1] [1] [1] [1] [1] [1] [0]");
        judge(next + "ZERO 2;JUDGE =(0,3);JUDGE =(1,4);JUDGE =(next(7),8);JUDGE !x =(x,0);HOLDS p(2);JUDGE p(0);JUDGE p(99999);JUDGE p(99998);",
                "0 0 0 0 0 0 [1] [1] [1] [0] 0 [1] [1] [0]");
        String round = "SIZE num 4;VALUE next(0) 1;VALUE next(1) 2;VALUE next(2) 3;VALUE next(3) 0;";
        judge(round + "JUDGE =(4,0);JUDGE =(99996,0);JUDGE =(99999,3);JUDGE =(5,1);JUDGE =(6,0);JUDGE !x =(next(next(next(next(x)))),x);",
                "0 0 0 0 0 [1] [1] [1] [1] [0] [1]");
        judge("SIZE num 3;VALUE next(0) 1;VALUE next(1) 0;JUDGE =(99998,0);JUDGE =(99999,1);JUDGE =(99999,0);", "0 0 0 [1] [1] [0]");
    }

    private static void judged() {
        String model = "SIZE num 2;VALUE next(0) 1;HOLDS p(1);";
        judge(model + "JUDGE p(1);JUDGE p(0);JUDGE p(x);JUDGE !x p(x);JUDGE ?x p(x);JUDGE ?x >(p(x),#);", "0 0 0 [1] [0] [0] [0] [1] [1]");
        judge(model + "JUDGE &(p(1),p(1));JUDGE &(p(1),p(0));JUDGE &(p(0),p(1));JUDGE &(p(0),p(0));", "0 0 0 [1] [0] [0] [0]");
        judge(model + "JUDGE |(p(1),p(1));JUDGE |(p(1),p(0));JUDGE |(p(0),p(1));JUDGE |(p(0),p(0));", "0 0 0 [1] [1] [1] [0]");
        judge(model + "JUDGE >(p(1),p(1));JUDGE >(p(1),p(0));JUDGE >(p(0),p(1));JUDGE >(p(0),p(0));", "0 0 0 [1] [0] [1] [1]");
        judge(model + "JUDGE |(p(x),=(x,0));JUDGE !x ?y >(p(x),=(x,y));JUDGE ?y !x =(x,y);JUDGE &(?x p(x),?x >(p(x),#));", "0 0 0 [1] [1] [0] [1]");
        // A VARIABLE that is FREE and bound in one FORMULA is two.
        judge(model + "JUDGE >(p(x),!x =(x,x));JUDGE >(=(x,1),&(?x =(x,0),p(x)));JUDGE &(?x =(x,0),=(x,0));", "0 0 0 [1] [1] [0]");
        judge("JUDGE no;JUDGE x;JUDGE p(b);", "1 4 5");
    }

    private static void variables() {
        judge("JUDGE =(x,y);JUDGE !x !y !z !u !v =(x,v);JUDGE !x !y !z !u !v !w =(x,v);JUDGE !x !x !x !x !x !x q;", "[1] [1] 6 6");
        judge("JUDGE &(&(=(x,y),=(z,u)),=(v,v));JUDGE &(&(=(x,y),=(z,u)),=(v,w));JUDGE !w &(&(=(x,y),=(z,u)),=(v,w));JUDGE !w &(=(x,y),=(z,u));", "[1] 6 6 [1]");
        // Only those around one another count: the most of them.
        judge("JUDGE &(!x !y !z =(x,y),&(!u !v !w =(u,v),!x !y !z !u !v =(x,x)));JUDGE &(=(x,x),!x !y !z !u !v =(x,x));JUDGE &(!x !x =(x,y),=(z,u));", "[1] 6 [1]");
        // Each FREE VARIABLE may be each thing.
        judge("SIZE num 2;SIZE box 2;JUDGE &(=(x,x),=(y,0));JUDGE &(=(y,y),=(x,0));JUDGE &(=(x,x),=(d,c));JUDGE &(=(x,x),=(w,w));", "0 0 [0] [0] [0] [1]");
        // Over four things each: 4 * 4 * 4 * 4 * 4.
        judge("SIZE num 4;VALUE next(0) 1;VALUE next(1) 2;VALUE next(2) 3;JUDGE ?x ?y ?z ?u !v |(|(=(v,x),=(v,y)),|(=(v,z),=(v,u)));"
                + "JUDGE ?y ?z ?u !v |(=(v,y),|(=(v,z),=(v,u)));JUDGE |(|(=(v,x),=(v,y)),|(=(v,z),=(v,u)));", "0 0 0 0 [1] [0] [0]");
    }

    // What is 40 DEEP is judged to its last place, on either side.
    private static void deep() {
        String model = "SIZE num 2;VALUE next(0) 1;VALUE next(1) 0;HOLDS p(1);";
        judge(model + "JUDGE p(" + Bench.repeat("next(", 37) + "0" + Bench.repeat(")", 37) + ");JUDGE p(" + Bench.repeat("next(", 38) + "0"
                + Bench.repeat(")", 38) + ");", "0 0 0 0 [1] [0]");
        String[] heads = {"&", "|", ">"};
        String[] others = {"p(1)", "p(0)", "p(1)"};
        for (int k = 0; k < 3; k++) {
            String front = heads[k] + "(";
            for (int so = 0; so < 2; so++) {
                String right = Bench.repeat(front + others[k] + ",", 38) + "p(" + so + ")" + Bench.repeat(")", 38);
                judge(model + "JUDGE " + right + ";", "0 0 0 0 [" + so + "]");
                String left = Bench.repeat(front, 38) + "p(" + so + ")" + Bench.repeat("," + (k == 2 ? "#" : others[k]) + ")", 38);
                judge(model + "JUDGE " + left + ";", "0 0 0 0 [" + so + "]");
            }
        }
        String five = Bench.repeat("&(p(1),", 33) + "?x !y ?x !y ?x p(x)" + Bench.repeat(")", 33);
        judge(model + "JUDGE " + five + ";JUDGE " + five.replace("?x p", "!x p") + ";", "0 0 0 0 [1] [0]");
        String equal = Bench.repeat("&(p(1),", 35) + "!x ?y =(next(x),y)" + Bench.repeat(")", 35);
        judge(model + "JUDGE " + equal + ";VALUE next(1) 1;JUDGE " + equal.replace("?y =(next(x),y)", "=(next(x),1)") + ";", "0 0 0 0 [1] 0 [1]");
    }

    private static void resized() {
        judge("SIZE num 2;VALUE next(0) 1;ZERO 1;HOLDS p(1);HOLDS q();VALUE c() 0;JUDGE p(0);SIZE box 1;JUDGE p(0);JUDGE q;JUDGE =(next(0),0);JUDGE ?x p(x);",
                "0 0 0 0 0 0 [1] 0 [0] [0] [1] [0]");
        // The SIZES of other SORTS stay, and what is REFUSED changes nothing.
        judge("SIZE num 3;SIZE box 2;HOLDS p(2);JUDGE ?x p(x);SIZE box 5;JUDGE ?x p(x);SIZE num 3;JUDGE ?x p(x);VALUE next(2) 2;VALUE next(3) 0;",
                "0 0 0 [1] 7 [1] 0 [0] 0 7");
        judge("SIZE num 2;ZERO 1;SIZE num 2;HOLDS p(0);JUDGE p(0);SIZE num 1;HOLDS p(1);", "0 0 0 0 [1] 0 7");
        // A SORT, FUN or REL that is told later is as all are at first.
        judge("SIZE box 3;SORT bag;VAR m bag;FUN n(bag) bag;REL o(bag);JUDGE =(n(m),m);JUDGE o(m);HOLDS o(0);JUDGE o(m);HOLDS o(1);", "0 0 0 0 0 [1] [0] 0 [1] 7");
    }

    private static void sizes() {
        Bench.sentence("SIZE s k: k is 1 to 4 (7)");
        String start = "SORT a;SORT b;SORT c;SORT d;SORT e;";
        for (String sort : new String[] {"num", "a", "b", "c", "d", "e"}) {
            new Bench().check(start + "VAR x " + sort + ";REL p(" + sort + ");SIZE " + sort + " 0;SIZE " + sort + " 5;SIZE " + sort + " -1;SIZE " + sort + " 999999;", "0 0 0 0 0 0 0 7 7 7 7");
            for (int size = 1; size <= 4; size++) {
                // There are just so many things: the last one can be told, the next one cannot.
                new Bench().check(start + "VAR x " + sort + ";REL p(" + sort + ");SIZE " + sort + " " + size + ";HOLDS p(" + (size - 1) + ");HOLDS p(" + size + ");HOLDS p(-1);JUDGE ?x p(x);JUDGE p(x);",
                        "0 0 0 0 0 0 0 0 0 7 7 [1] [" + (size == 1 ? 1 : 0) + "]");
                StringBuilder all = new StringBuilder(start + "VAR x " + sort + ";REL p(" + sort + ");SIZE " + sort + " " + size + ";");
                StringBuilder due = new StringBuilder("0 0 0 0 0 0 0 0");
                for (int k = 0; k < size; k++) {
                    all.append("JUDGE !x p(x);HOLDS p(").append(k).append(");");
                    due.append(" [0] 0");
                }
                new Bench().check(all + "JUDGE !x p(x);LACKS p(" + (size - 1) + ");JUDGE p(x);LACKS p(" + size + ");", due + " [1] 0 [0] 7");
            }
        }
        Bench.sentence("all VALUES are 0, and no RELS HOLD then; ZERO is 0");
        String told = "VAR x num;FUN f(num) num;REL p(num);REL q();SORT box;SIZE num 3;VALUE f(2) 1;VALUE next(0) 2;HOLDS p(1);HOLDS q();ZERO 1;";
        String asked = "JUDGE ?x p(x);JUDGE q;JUDGE !x =(f(x),f(0));JUDGE !x =(next(x),next(0));JUDGE =(0,next(0));";
        new Bench().check(told + asked, "0 0 0 0 0 0 0 0 0 0 0 [1] [1] [0] [0] [0]");
        for (String size : new String[] {"SIZE num 3;", "SIZE box 1;", "SIZE box 4;", "SIZE num 4;", "SIZE num 2;", "SIZE num 1;"}) {
            new Bench().check(told + size + asked, "0 0 0 0 0 0 0 0 0 0 0 0 [0] [0] [1] [1] [1]");
        }
        // One that is REFUSED leaves all as it was.
        for (String size : new String[] {"SIZE num 0;", "SIZE num 5;", "SIZE box -1;"}) {
            new Bench().check(told + size + asked, "0 0 0 0 0 0 0 0 0 0 0 7 [1] [1] [0] [0] [0]");
        }
    }

    private static void thingsOfASort() {
        Bench.sentence("ZERO k, VALUE, HOLDS, LACKS: as many NUMBERS as parts (3), each a thing of its SORT, as is k (7)");
        for (int size = 1; size <= 4; size++) {
            Bench bench = new Bench();
            bench.check("SORT box;FUN f(num,box,num) box;FUN c() num;REL r(box,num,box);SIZE num " + size + ";SIZE box " + (5 - size) + ";", "0 0 0 0 0 0");
            for (int n = -1; n <= 5; n++) {
                String num = n >= 0 && n < size ? "0" : "7";
                String box = n >= 0 && n < 5 - size ? "0" : "7";
                bench.check("ZERO " + n + ";VALUE f(" + n + ",0,0) 0;VALUE f(0," + n + ",0) 0;VALUE f(0,0," + n + ") 0;VALUE f(0,0,0) " + n + ";VALUE c() " + n + ";VALUE next(" + n
                        + ") 0;VALUE next(0) " + n + ";", num + " " + num + " " + box + " " + num + " " + box + " " + num + " " + num + " " + num);
                bench.check("HOLDS r(" + n + ",0,0);HOLDS r(0," + n + ",0);HOLDS r(0,0," + n + ");LACKS r(" + n + ",0,0);LACKS r(0," + n + ",0);LACKS r(0,0," + n + ");",
                        box + " " + num + " " + box + " " + box + " " + num + " " + box);
            }
        }
        // Each of the 64 places of a table of three parts is its own.
        Bench bench = new Bench();
        bench.check("SORT box;VAR x box;VAR y box;VAR z box;FUN a() box;FUN b() box;FUN c() box;REL r(box,box,box);FUN f(box,box,box) box;SIZE box 4;", "0 0 0 0 0 0 0 0 0 0");
        for (int k = 0; k < 64; k++) {
            String row = "(" + k / 16 + "," + k / 4 % 4 + "," + k % 4 + ")";
            bench.check("VALUE a() " + k / 16 + ";VALUE b() " + k / 4 % 4 + ";VALUE c() " + k % 4 + ";JUDGE r(a,b,c);HOLDS r" + row + ";JUDGE r(a,b,c);JUDGE !x !y !z >(r(x,y,z),&(=(x,a),&(=(y,b),=(z,c))));LACKS r"
                    + row + ";VALUE f" + row + " 3;JUDGE =(f(a,b,c),f(c,c,c));VALUE f" + row + " 0;", "0 0 0 [0] 0 [1] [1] 0 0 [" + (k % 21 == 0 ? 1 : 0) + "] 0");
        }
        Bench.sentence("NUMERAL k is what next makes of ZERO, k times");
        numeralsOfAll();
    }

    // All 4 ^ 4 tables of next over four things, with each ZERO, against counting one by one.
    private static void numeralsOfAll() {
        int[] numerals = {0, 1, 2, 3, 4, 5, 6, 7, 11, 12, 13, 15, 16, 17, 99998, 99999};
        for (int table = 0; table < 256; table += 3) {
            int[] next = {table & 3, table >> 2 & 3, table >> 4 & 3, table >> 6 & 3};
            StringBuilder text = new StringBuilder("REL p(num);SIZE num 4;");
            StringBuilder due = new StringBuilder("0 0");
            for (int k = 0; k < 4; k++) {
                text.append("VALUE next(").append(k).append(") ").append(next[k]).append(';');
                due.append(" 0");
            }
            for (int zero = 0; zero < 4; zero++) {
                text.append("ZERO ").append(zero).append(';');
                due.append(" 0");
                for (int numeral : numerals) {
                    int thing = zero;
                    for (int k = 0; k < numeral; k++) {
                        thing = next[thing];
                    }
                    text.append("HOLDS p(").append(thing).append(");JUDGE p(").append(numeral).append(");LACKS p(").append(thing).append(");");
                    due.append(" 0 [1] 0");
                }
            }
            new Bench().check(text.toString(), due.toString());
        }
    }

    private static void fiveTogether() {
        Bench.sentence("6: as many VARIABLES FREE, and ! and ? around one another, as are more than 5 together");
        StringBuilder start = new StringBuilder("VAR z num;REL q();");
        StringBuilder started = new StringBuilder("0 0");
        for (int k = 0; k < 7; k++) {
            start.append("VAR x").append(k).append(" num;");
            started.append(" 0");
        }
        for (int free = 0; free <= 7; free++) {
            for (int around = 0; around <= 7; around++) {
                StringBuilder f = new StringBuilder();
                for (int k = 0; k < around; k++) {
                    f.append(k % 2 == 0 ? "!z " : "?z ");
                }
                for (int k = 0; k < free; k++) {
                    // Each twice: it is one VARIABLE all the same.
                    f.append("&(=(x").append(k).append(",x").append(k).append("),");
                }
                f.append("=(0,0)").append(Bench.repeat(")", free));
                String due = free + around > 5 ? "6" : "[1]";
                new Bench().check(start + "JUDGE " + f + ";", started + " " + due);
                // One beside the other counts but once, and what is bound is not FREE.
                new Bench().check(start + "JUDGE &(" + f + "," + f + ");", started + " " + due);
                new Bench().check(start + "JUDGE &(!z ?z #," + f + ");", started + " " + (free + Math.max(2, around) > 5 ? "6" : "[0]"));
            }
        }
        new Bench().check(start + "JUDGE !x0 !x1 !x2 !x3 !x4 &(=(x0,x1),&(=(x2,x3),=(x4,x4)));JUDGE !x0 !x1 !x2 !x3 !x4 =(x5,x5);JUDGE !x0 !x1 !x2 !x3 =(x5,x5);JUDGE !x0 !x1 !x2 !x3 =(x5,x6);",
                started + " [1] 6 [1] 6");
        // A VARIABLE that is FREE and bound counts as FREE, and its ! too.
        new Bench().check(start + "JUDGE &(=(x0,x0),!x0 !x1 !x2 !x3 =(x0,x0));JUDGE &(=(x0,x0),!x0 !x1 !x2 !x3 !x4 =(x0,x0));", started + " [1] 6");
    }

    private static void atFirst() {
        Bench.sentence("At first all SIZES are 1, all VALUES 0, and no RELS HOLD");
        new Bench().check("SORT box;VAR b box;VAR x num;FUN f(num,box) box;REL r(num,box);REL q();ZERO 1;ZERO 0;VALUE f(0,0) 1;VALUE f(0,1) 0;VALUE f(1,0) 0;VALUE f(0,0) 0;HOLDS r(1,0);HOLDS r(0,1);",
                "0 0 0 0 0 0 7 0 7 7 7 0 7 7");
        new Bench().check("SORT box;VAR b box;VAR x num;FUN f(num,box) box;REL r(num,box);REL q();JUDGE =(f(x,b),b);JUDGE r(x,b);JUDGE q;JUDGE =(x,99999);HOLDS r(0,0);JUDGE r(x,b);",
                "0 0 0 0 0 0 [1] [0] [0] [1] 0 [1]");
        // PROOF and what is told later leave the MODEL as it is; a REL that is told later HOLDS nowhere.
        new Bench().check("SIZE num 4;REL p(num);HOLDS p(3);FUN f() num;VALUE f() 3;PROOF;VAR x num;JUDGE p(f);REL s(num);DEFINE d(x) p(x);JUDGE ?x |(s(x),d(x));JUDGE ?x p(x);",
                "0 0 0 0 0 0 0 [1] 0 0 [0] [1]");
    }

    // 20 FUNS, 20 RELS, 6 SORTS, all at once: what is told of one is told of no other.
    private static void eachHasItsOwn() {
        Bench.sentence("Each SORT has things 0 to SIZE - 1; VALUE, HOLDS, LACKS");
        StringBuilder names = new StringBuilder("SIZE num 4;VALUE next(0) 1;VALUE next(1) 2;VALUE next(2) 3;VALUE next(3) 3;");
        StringBuilder told = new StringBuilder();
        StringBuilder asked = new StringBuilder();
        StringBuilder due = new StringBuilder();
        for (int k = 0; k < 20; k++) {
            names.append("REL r").append(k).append("(num);").append(k == 0 ? "" : "FUN f" + k + "(num) num;");
            for (int i = 0; i < 4; i++) {
                boolean holds = (k * 7 + 3 >> i & 1) == 1;
                told.append(holds ? "HOLDS r" : "LACKS r").append(k).append('(').append(i).append(");");
                asked.append("JUDGE r").append(k).append('(').append(i).append(");");
                due.append(holds ? "[1] " : "[0] ");
                int value = k + i * 3 + k / 4 & 3;
                if (k > 0) {
                    told.append("VALUE f").append(k).append('(').append(i).append(") ").append(value).append(';');
                    asked.append("JUDGE =(f").append(k).append('(').append(i).append("),").append(value).append(");");
                    due.append("[1] ");
                }
            }
        }
        Bench bench = new Bench();
        bench.check(names.toString(), Bench.repeat("0 ", 44).trim());
        bench.check(told.toString(), Bench.repeat("0 ", 156).trim());
        bench.check(asked.toString(), due.toString().trim());
        int[] sizes = {3, 1, 4, 2, 4, 1};
        String[] sorts = {"num", "a", "b", "c", "d", "e"};
        Bench six = new Bench();
        six.check("SORT a;SORT b;SORT c;SORT d;SORT e;", "0 0 0 0 0");
        for (int k = 0; k < 6; k++) {
            six.check("REL p" + k + "(" + sorts[k] + ");SIZE " + sorts[k] + " " + sizes[k] + ";", "0 0");
        }
        for (int k = 0; k < 6; k++) {
            six.check("HOLDS p" + k + "(" + (sizes[k] - 1) + ");HOLDS p" + k + "(" + sizes[k] + ");", "0 7");
        }
    }
}
