/** Promise 2: feed. */
public final class Promise02FeedTest {
    private static final long BLANK = 0x2020202020202020L;

    public static void main(String[] args) {
        order();
        eachByte();
        howMany();
        nothingComes();
        afterRun();
        Bench.done();
    }

    private static int blanks(ProofBench x) {
        return x.feed(BLANK, BLANK, BLANK, BLANK, BLANK);
    }

    private static void order() {
        Bench.sentence("The forty bytes of five longs, the highest of each first, come to the TAPE");
        // "SORT a;S" "ORT b;SO" "RT c;SOR" "T d;SORT" " e;     ".
        ProofBench x = new ProofBench();
        Bench.due("feed", x.feed(0x534F525420613B53L, 0x4F525420623B534FL, 0x525420633B534F52L, 0x5420643B534F5254L,
                0x20653B2020202020L), 40);
        Bench.due("run", x.run(), 5);
        Bench.due("wrong", x.wrong(), -1);
        Bench.due("refusals(0)", x.refusals(0), 5);
        // A STATEMENT goes on from one feed to the next.
        Bench.due("feed", x.feed(BLANK, BLANK, BLANK, BLANK, 0x202020202056_4152L), 40);
        Bench.due("feed", x.feed(0x20782061_3B202020L, BLANK, BLANK, BLANK, BLANK), 80);
        Bench.due("run", x.run(), 1);
        Bench.due("out(0)", x.out(0), 0);
    }

    // Each of the forty is found where it belongs, the bytes above 127 and 0, too.
    private static void eachByte() {
        Bench.sentence("The forty bytes of five longs, the highest of each first, come to the TAPE");
        int[] bytes = {'*', 0, 127, 128, 255};
        for (int at = 0; at < 40; at++) {
            for (int one : bytes) {
                long[] five = {BLANK, BLANK, BLANK, BLANK, BLANK};
                int shift = 56 - 8 * (at % 8);
                five[at / 8] = five[at / 8] & ~(255L << shift) | (long) one << shift;
                ProofBench x = new ProofBench();
                Bench.due("feed", blanks(x), 40);
                Bench.due("feed", x.feed(five[0], five[1], five[2], five[3], five[4]), 80);
                Bench.due("run", x.run(), 0);
                Bench.due("wrong with byte " + one + " at " + at, x.wrong(), 40 + at);
            }
        }
    }

    private static void howMany() {
        Bench.sentence("answers how many it has; BAD if these would be more than 4000");
        ProofBench x = new ProofBench();
        for (int k = 1; k <= 100; k++) {
            Bench.due("feed number " + k, blanks(x), 40 * k);
        }
        Bench.due("feed over 4000", blanks(x), -1);
        Bench.due("feed over 4000", blanks(x), -1);
        Bench.due("end(3999)", x.end(3999), 3999);
        Bench.due("feed over 4000 by 39", blanks(x), -1);
        Bench.due("end(3961)", x.end(3961), 3961);
        Bench.due("feed over 4000 by 1", blanks(x), -1);
        Bench.due("end(3960)", x.end(3960), 3960);
        Bench.due("feed up to 4000", blanks(x), 4000);
        Bench.due("feed over 4000", blanks(x), -1);
        Bench.due("end(1)", x.end(1), 1);
        for (int k = 1; k <= 99; k++) {
            Bench.due("feed number " + k + " behind one byte", blanks(x), 40 * k + 1);
        }
        Bench.due("feed over 4000 by 1", blanks(x), -1);
    }

    private static void nothingComes() {
        Bench.sentence("BAD, and nothing comes, if these would be more than 4000");
        ProofBench x = new ProofBench();
        for (int k = 0; k < 100; k++) {
            blanks(x);
        }
        x.end(3970);
        Bench.due("feed of what is WRONG", x.feed(-1L, -1L, -1L, -1L, -1L), -1);
        Bench.due("end(3971)", x.end(3971), -1);
        Bench.due("end(3970)", x.end(3970), 3970);
        Bench.due("run", x.run(), 0);
        Bench.due("wrong", x.wrong(), -1);
        // All 4000 bytes are read, to the last one.
        for (int k = 0; k < 99; k++) {
            blanks(x);
        }
        Bench.due("feed up to 4000", x.feed(BLANK, BLANK, BLANK, BLANK, 0x202020202020203BL), 4000);
        Bench.due("feed over 4000", x.feed(-1L, -1L, -1L, -1L, -1L), -1);
        Bench.due("run", x.run(), 0);
        Bench.due("wrong", x.wrong(), 3999);
        Bench whole = new Bench().feed(Bench.repeat("\n", 3993) + "SORT a;");
        Bench.due("a feed more", blanks(whole.object), -1);
        Bench.due("run of a STATEMENT that ends with byte 4000", whole.object.run(), 1);
        Bench.due("wrong", whole.object.wrong(), -1);
        Bench cut = new Bench().feed(Bench.repeat("\n", 3994) + "SORT a");
        Bench.due("run of one that would end with byte 4001", cut.object.run(), 0);
        Bench.due("wrong", cut.object.wrong(), 4000);
    }

    private static void afterRun() {
        Bench.sentence("the TAPE is done, and empty then");
        ProofBench x = new ProofBench();
        for (int k = 0; k < 100; k++) {
            blanks(x);
        }
        Bench.due("feed over 4000", blanks(x), -1);
        Bench.due("run", x.run(), 0);
        Bench.due("feed", blanks(x), 40);
        Bench.due("run", x.run(), 0);
        Bench.due("feed of what is WRONG", x.feed(0, 0, 0, 0, 0), 40);
        Bench.due("run", x.run(), 0);
        Bench.due("wrong", x.wrong(), 0);
        Bench.due("feed", blanks(x), 40);
        Bench.due("run", x.run(), 0);
        Bench.due("wrong", x.wrong(), -1);
    }
}
