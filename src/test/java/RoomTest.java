import java.lang.management.ManagementFactory;

/** No call makes an object; only new KneeStair() does, and not too many. */
public final class RoomTest {
    private static final String FULL = "stair 99; pilgrim a 0 4 9 9 9 kneels; pilgrim b 1 4 9 9 9 kneels; pilgrim c 2 4 9 9 9;"
            + "pilgrim d 3 1 1 9 9; pilgrim e 4 1 1 9 9; pilgrim f 5 1 1 9 9; pilgrim g 6 1 1 9 9; pilgrim h 7 1 1 9 9 kneels;"
            + "moves = if knees / 0 < (1 + (2 * 3)) then 1 else knees - doubt + oiled; has = step * 2 - sore;";

    private static long made() {
        com.sun.management.ThreadMXBean bean = (com.sun.management.ThreadMXBean) ManagementFactory.getThreadMXBean();
        return bean.getThreadAllocatedBytes(Thread.currentThread().getId());
    }

    private static int callAll(KneeStair x, byte[] text) {
        int sum = 0;
        for (int i = 0; i + 20 <= text.length; i += 20) {
            sum += x.feed(Check.word(text, i), Check.word(text, i + 4), Check.word(text, i + 8), Check.word(text, i + 12), Check.word(text, i + 16));
        }
        sum += x.read() + x.place() + x.back(0);
        for (int p = -1; p < 9; p++) {
            sum += x.pilgrim(p, 5) + x.arrives(p) + x.highest(p, 300) + x.means(p, 0, 300) + x.oiled(p, 20) + x.doubted(p, 20)
                + x.bestStart(p, 20, 0) + x.meet(p, 0) + x.exchange(p, 20, 0) + x.rank(p) + x.share(p, true) + x.tell(p, 9, 4);
            sum += (x.kneel(p) ? 1 : 0) + (x.rise(p) ? 1 : 0) + (x.board(p) ? 1 : 0) + (x.hold(p) ? 1 : 0);
        }
        sum += x.moves() + x.oil(9) + x.run(30) + x.still() + x.first(0) + x.most(1) + x.lowest(300) + x.bestTwo(50, 0) + x.there(0)
            + x.kneelers(3, 50, 0) + x.rests(50, -1) + x.secret(4, -1) + x.off(4) + x.forget() + x.count(6);
        return sum + (x.undo() ? 1 : 0) + (x.restore(0) ? 1 : 0);
    }

    public static void main(String[] args) {
        Check check = new Check();
        check.about("room");
        byte[] text = Check.bytes(FULL + " ".repeat(20 - FULL.length() % 20));
        int sum = callAll(new KneeStair(), text);
        long before = made();
        long itself = made() - before;
        KneeStair x = new KneeStair();
        before = made();
        int again = callAll(x, text);
        long bytes = made() - before - itself;
        check.due("the same answers", again, sum);
        check.due("the text is right", x.count(0), 8);
        check.due("bytes made by calls: " + bytes, bytes <= 0, true);
        before = made();
        new KneeStair();
        bytes = made() - before - itself;
        check.due("bytes made by new: " + bytes, bytes < 80000, true);
        check.end();
    }
}
