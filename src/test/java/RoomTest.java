import com.sun.management.ThreadMXBean;
import java.lang.management.ManagementFactory;

/**
 * What one run makes: 512 calls, with the largest questions that there are and with ever larger ones, so
 * that each row grows as often as it can. An element needs a byte at least and an object sixteen, so
 * fewer bytes than the room has elements are few enough of both.
 */
public final class RoomTest extends Answers {
    private static final int CALLS = 512;
    private static final long ROOM = 7_300_000;
    /** With one of 43 it has 44 x 43 + 44 + 43 + 1 = 1,980 pairs, and 88 columns of signs. */
    private static final int LARGEST_RING = 44;
    private static final ThreadMXBean THREADS = (ThreadMXBean) ManagementFactory.getThreadMXBean();

    private interface Run {
        /** One call, or one question with its tape. */
        void call(FuzzyWords x, int number);
    }

    private static long bytesOf(Run run) {
        long before = THREADS.getThreadAllocatedBytes(Thread.currentThread().getId());
        FuzzyWords x = new FuzzyWords();
        for (int number = 0; number < CALLS; number++) {
            run.call(x, number);
        }
        return THREADS.getThreadAllocatedBytes(Thread.currentThread().getId()) - before;
    }

    private static void hold(String name, Run run) {
        bytesOf(run);
        long bytes = bytesOf(run);
        System.out.println("  " + name + ": " + bytes + " bytes");
        due(name + ": room for what it makes", bytes < ROOM ? 1 : 0, 1);
    }

    /** A ring of places, each of which has all signs but one of its own: many states and many columns. */
    private static String ring(char firstSign, int places) {
        StringBuilder text = new StringBuilder("(");
        for (int i = 0; i < places; i++) {
            char sign = (char) (firstSign + i);
            text.append("[^").append(sign == '\\' || sign == ']' ? "\\" : "").append(sign).append(']');
        }
        return text.append(")*").toString();
    }

    private static void regular(FuzzyWords x, String text) {
        type(x, text);
        x.regular();
    }

    private static void growRings(FuzzyWords x, int number) {
        int places = Math.min(2 + number / 8, LARGEST_RING);
        switch (number % 4) {
            case 0: regular(x, ring(' ', places)); break;
            case 1: x.keep(); break;
            case 2: regular(x, ring('L', places - 1)); break;
            default: x.make(number / 4 % 4); break;
        }
    }

    private static void growRows(FuzzyWords x, int number) {
        StringBuilder text = new StringBuilder();
        for (int i = 0; i <= number % 95; i++) {
            text.append('\\').append((char) (' ' + i));
        }
        regular(x, text.toString());
        x.keep();
    }

    private static void manyCallsOfEachKind(FuzzyWords x, int number) {
        type(x, "abcdefghijklmnop");
        switch (number % 5) {
            case 0: x.add(number); break;
            case 1: x.near(2, true, 0); break;
            case 2: x.between(8, true, true); break;
            case 3: x.wild(); break;
            default: x.best(0); x.walk(); x.shortest(); x.number(8); x.distance(0, 0, true); break;
        }
    }

    public static void main(String[] args) {
        about = "the room of a run";
        hold("one object", (x, number) -> x.count(0));
        hold("rings that grow, joined, met and turned", RoomTest::growRings);
        hold("rows that grow", RoomTest::growRows);
        hold("calls of each kind", RoomTest::manyCallsOfEachKind);
        due("pairs of two rings", tooMany(), TOO_MANY);
        report("RoomTest");
    }

    /** The rings above are as large as is meant: their pairs are counted, their states are too many. */
    private static long tooMany() {
        FuzzyWords x = new FuzzyWords();
        regular(x, ring(' ', LARGEST_RING));
        x.keep();
        regular(x, ring('L', LARGEST_RING - 1));
        return x.make(0);
    }
}
