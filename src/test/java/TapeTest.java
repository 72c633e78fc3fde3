/** Promises 2, 3 and what run() leaves of the TAPE: feed, end. */
public final class TapeTest {
    public static void main(String[] args) {
        order();
        limits();
        ends();
        Bench.done();
    }

    private static void order() {
        // "SORT a;S" "ORT b;SO" "RT c;SOR" "T d;SORT" " e;     ", the highest byte of each long first.
        ProofBench x = new ProofBench();
        Bench.due("feed", x.feed(0x534F525420613B53L, 0x4F525420623B534FL, 0x525420633B534F52L, 0x5420643B534F5254L,
                0x20653B2020202020L), 40);
        Bench.due("run", x.run(), 5);
        Bench.due("wrong", x.wrong(), -1);
        Bench.due("refusals(0)", x.refusals(0), 5);
        // A byte above 127 is one of the forty, too, and no TOKEN begins with it.
        Bench.due("feed", x.feed(0x20202020202020FFL, -1L, -1L, -1L, -1L), 40);
        Bench.due("run", x.run(), 0);
        Bench.due("wrong", x.wrong(), 7);
    }

    private static void limits() {
        ProofBench x = new ProofBench();
        long blank = 0x2020202020202020L;
        for (int k = 1; k <= 100; k++) {
            Bench.due("feed", x.feed(blank, blank, blank, blank, blank), 40 * k);
        }
        Bench.due("feed over 4000", x.feed(0, 0, 0, 0, 0), -1);
        Bench.due("end(4000)", x.end(4000), 4000);
        Bench.due("end(3961)", x.end(3961), 3961);
        Bench.due("feed over 4000", x.feed(0, 0, 0, 0, 0), -1);
        Bench.due("end(3960)", x.end(3960), 3960);
        Bench.due("feed up to 4000", x.feed(blank, blank, blank, blank, 0x202020202020203BL), 4000);
        Bench.due("run", x.run(), 0);
        Bench.due("wrong", x.wrong(), 3999);
        Bench.due("the TAPE is empty then", x.end(1), -1);
        Bench.due("feed", x.feed(blank, blank, blank, blank, blank), 40);
        Bench.due("run", x.run(), 0);
        Bench.due("wrong", x.wrong(), -1);
    }

    private static void cut(String text, int n, int whole, int wrong) {
        Bench bench = new Bench().feed(text);
        Bench.due("end", bench.object.end(n), n);
        Bench.due("run of " + text + " cut", bench.object.run(), whole);
        Bench.due("wrong of " + text + " cut", bench.object.wrong(), wrong);
    }

    private static void ends() {
        ProofBench x = new ProofBench();
        Bench.due("end(-1)", x.end(-1), -1);
        Bench.due("end(1)", x.end(1), -1);
        Bench.due("end(0)", x.end(0), 0);
        x.feed(0x534F525420613B53L, 0x4F525420623B534FL, 0x525420633B534F52L, 0x5420643B534F5254L, 0x20653B2020202020L);
        Bench.due("end(41)", x.end(41), -1);
        Bench.due("end(MAX)", x.end(Integer.MAX_VALUE), -1);
        Bench.due("end(MIN)", x.end(Integer.MIN_VALUE), -1);
        Bench.due("end(40)", x.end(40), 40);
        Bench.due("end(14)", x.end(14), 14);
        Bench.due("end(15)", x.end(15), -1);
        Bench.due("feed", x.feed(0x2020202020202020L, 0, 0, 0, 0), 54);
        Bench.due("end(22)", x.end(22), 22);
        Bench.due("run", x.run(), 2);
        Bench.due("wrong", x.wrong(), -1);
        Bench.due("run of an empty TAPE", x.run(), 0);
        // What was cut off is not read: SOR is no WORD, twelve letters are a NAME, six digits a NUMBER.
        cut("SORT a;SORT b;", 10, 1, 7);
        cut("SORT abcdefghijklm;", 17, 0, 17);
        cut("COUNT 1234567;", 12, 0, 12);
        Bench.due("outputs", x.outputs(), 0);
    }
}
