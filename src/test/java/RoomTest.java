import com.sun.management.ThreadMXBean;
import java.lang.management.ManagementFactory;

/**
 * How much room calls take, by the bytes that the Java machine gives out: all calls of a run live in one room of some
 * 600,000 objects and arrays, 7.3 million fields and elements. Rows are made by the constructor and by the first image
 * of each number; besides only read makes an object, a small one.
 */
public final class RoomTest {
    private static final ThreadMXBean BEAN = (ThreadMXBean) ManagementFactory.getThreadMXBean();
    private static final String TEXT = "village;man 3 9;man 5 12;man 0 30;dog 2 3 5 1;dog 3 1 2 0;dog 5 5 9 3;bribe 0 0;";
    private static final int MOST_MADE = 16384, MOST_READ = 64, MOST_CALLS = 512;

    private static int asked;

    private static long given() {
        return BEAN.getThreadAllocatedBytes(Thread.currentThread().getId());
    }

    /** Each call once that does not read, 36 of them. */
    private static long each(DogsPostman x) {
        asked += 36;
        long sum = x.village() + x.man(3, 9) + x.man(5, 12) + x.dog(2, 3, 5, 1) + x.dog(3, 1, 2, 0) + x.type(' ');
        sum += x.note(0, 1, 9, 0) + x.note(1, 0, 3, 1) + x.is(0) + x.send(0) + x.forget();
        sum += x.bribe(0, 1) + x.round(30) + x.undo() + x.of(0, 0) + x.about(0, 0) + x.bitten(0, 1);
        sum += x.then(0, 30) + x.won(30, 0) + x.letters() + x.bribes(0, 0) + x.still(0) + x.first(0, 0);
        sum += x.slept(99, 0, 6, 0) + x.two(0, 1, -1) + x.strays(0, 3) + x.villages(999999, 60) + x.part(0);
        sum += x.image(0) + x.image(1) + x.from(0) + x.status(0) + x.count(0) + x.digest() + x.man(10, 0);
        return sum + x.clear();
    }

    public static void main(String[] args) {
        Check check = new Check("RoomTest");
        check.isTrue("bytes given out are counted here", BEAN.isThreadAllocatedMemorySupported());
        long sum = 0;
        // The first time classes are loaded, which is counted, too.
        for (int time = 0; time < 2; time++) {
            asked = 0;
            long before = given();
            DogsPostman x = new DogsPostman();
            sum += each(x);
            long made = given() - before;
            before = given();
            for (int i = 0; i < 9; i++) {
                sum += each(x);
            }
            long called = given() - before;
            for (int i = 0; i < TEXT.length(); i++) {
                x.type(TEXT.charAt(i));
                asked++;
            }
            int items = 0;
            before = given();
            for (int i = 0; i < 60; i++) {
                items = x.read();
                asked++;
            }
            long read = given() - before;
            if (time == 1) {
                check.isTrue("an object, its images: " + made + " bytes", made <= MOST_MADE);
                // One object, 16 bytes at least, by one of the calls alone would be as many as this.
                check.isTrue("calls that do not read: " + called + " bytes", called < 9 * 16);
                check.due("read()", items, 8);
                check.isTrue("60 times read: " + read + " bytes", read <= 60 * MOST_READ);
                System.out.println("an object, its images: " + made + " bytes; 60 times read: " + read + " bytes");
                check.isTrue("512 calls at most: " + asked, asked <= MOST_CALLS);
            }
        }
        check.isTrue("answers were summed up", sum != 0);
        check.end();
    }
}
