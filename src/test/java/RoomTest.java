import com.sun.management.ThreadMXBean;
import java.lang.management.ManagementFactory;

/** What a run of 512 calls makes must stay far under the room that all calls share. */
public final class RoomTest {
    private static final int CALLS = 512;
    private static final ThreadMXBean THREADS = (ThreadMXBean) ManagementFactory.getThreadMXBean();
    private static final Check CHECK = new Check();

    private interface Run {
        void call(LandSurvey survey, int n);
    }

    private RoomTest() {
    }

    public static void main(String[] args) {
        spends("new objects", 16_000_000, (x, n) -> new LandSurvey());
        spends("rules", 2_000_000, (x, n) -> x.rules());
        spends("rules with text", 2_000_000, RoomTest::tellAndRead);
        spends("crowded land", 400_000, RoomTest::crowd);
        spends("every question", 400_000, RoomTest::askAll);
        CHECK.end("room");
    }

    private static void spends(String name, long most, Run run) {
        measured(run);
        long bytes = measured(run);
        if (bytes > most) {
            System.out.println(name + " made " + bytes + " bytes");
        }
        CHECK.yes(name + " stays under " + most + " bytes", bytes <= most);
    }

    private static long measured(Run run) {
        long id = Thread.currentThread().getId();
        LandSurvey survey = new LandSurvey();
        long from = THREADS.getThreadAllocatedBytes(id);
        for (int n = 0; n < CALLS; n++) {
            run.call(survey, n);
        }
        return THREADS.getThreadAllocatedBytes(id) - from;
    }

    private static void tellAndRead(LandSurvey x, int n) {
        if (n % 2 == 0) {
            x.feed(0x726f636b20612030L, 0x20746f2030003b00L, 0);
        } else {
            x.rules();
        }
    }

    private static void crowd(LandSurvey x, int n) {
        if (n == 0) {
            Check.rules(x, "rock a 0 to 9; name a when 1; steep 1; rank 5 when hand = 1;");
        } else if (n <= 40) {
            x.sight(2, n % 12, n % 8, n * 7 % 30, n % 6, 0);
        } else if (n <= 80) {
            x.dip(n - 41, n % 4, n % 7 - 3, n % 5);
        } else if (n <= 84) {
            x.fault(n % 11, 0, true, 8, -300, 300, 5);
        } else if (n % 2 == 0) {
            x.cell(n % 12, n % 8, 490 + n % 20, true);
        } else {
            x.best(n % 4);
        }
    }

    private static void askAll(LandSurvey x, int n) {
        if (n == 0) {
            Check.rules(x, "rock a 0 to 9; rock b 5 to 5; name a when 1; steep 1; holds a; tight b; draw full when agree < 3;");
            x.sight(2, 5, 5, 0, 0, 0);
            x.question(3, 3, true);
            x.place(4, 4, 3);
            x.fault(4, 0, true, 8, -300, 300, 5);
            x.rivalry(9);
        }
        x.cell(n % 12, 0, 500 - n % 3, true);
        x.sheet(0, 0, 11, 7);
        x.stale(0);
        x.line(5, 5, n % 4);
        x.lies(5, 5, n);
        x.deep(5, 5, 0, 0);
        x.water(5, 5, 0);
        x.seam(0, 1, 0);
        x.left(0);
        x.next();
        x.count(10);
        x.doubles(0, 1, 0);
        x.habit(0);
        x.quarrel(0, 0);
    }
}
