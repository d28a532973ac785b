import java.lang.management.ManagementFactory;

/** Dear runs: how much an object and its calls make, and that the dearest of them end soon. */
public final class RoomTest {
    private static final long MOST_BYTES_NEW = 150_000;
    /** Beside what is made anew, the rows of worths that grow with stones. */
    private static final long MOST_BYTES_RUN = 400_000;
    private static final long MOST_SECONDS = 20;

    private static LetterSums x;

    private static void feed(String text) {
        for (int i = 0; i < text.length(); i += 8) {
            long w = 0;
            for (int j = Math.min(text.length(), i + 8) - 1; j >= i; j--) {
                w = w << 8 | text.charAt(j);
            }
            x.letters(w);
        }
    }

    private static void dearRun() {
        x = new LetterSums();
        feed("I9,V9,X9,L9,C9,D9,M9,i9,v9,x9,l9,c9,d9,m9,I<VXLCDMivxlcdm,I<<VXLCDMivxlcdm");
        x.custom();
        feed("I9,V9,X9,L9,C9,D9,M9,X<LCDMivxlcdm,V<XLCDMivxlcdm,C<<Mivxlcdm,L<CDMivxlcdm");
        x.custom();
        for (int i = 0; i < 20; i++) {
            x.ways(i % 2, 9999999 - i);
            x.write(i % 12, i % 2, 12345 * (i + 1), -1);
        }
        feed("...*");
        x.stone();
        for (int i = 0; i < 15; i++) {
            x.could(0);
            x.says(1, i);
        }
        feed("XIXIXIXIXIXIXIXIXIXIXIXI");
        x.row(3);
        for (int i = 0; i < 30; i++) {
            x.note(i % 6, 3);
            x.hands(3);
            x.line(3, 0);
            x.slip(i % 4);
        }
        for (int i = 0; i < 200; i++) {
            x.digest();
        }
    }

    private static long bytesMade() {
        return ((com.sun.management.ThreadMXBean) ManagementFactory.getThreadMXBean())
            .getThreadAllocatedBytes(Thread.currentThread().getId());
    }

    public static void main(String[] args) {
        dearRun();
        long before = bytesMade();
        x = new LetterSums();
        long made = bytesMade() - before;
        before = bytesMade();
        long start = System.nanoTime();
        dearRun();
        // the texts that feed() cuts up are this test's own, and few
        long run = bytesMade() - before;
        long seconds = (System.nanoTime() - start) / 1_000_000_000L;
        boolean good = made <= MOST_BYTES_NEW && run <= MOST_BYTES_RUN && seconds <= MOST_SECONDS;
        System.out.println("RoomTest: " + made + " bytes for an object, " + run + " for a dear run, " + seconds + " s"
            + (good ? "" : ": too much"));
        if (!good) {
            System.exit(1);
        }
    }
}
