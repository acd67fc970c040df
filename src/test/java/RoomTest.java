import com.sun.management.ThreadMXBean;
import java.lang.management.ManagementFactory;

/**
 * All calls of a run share one room, so that calls make next to nothing: what 50 of the dearest ones make is measured,
 * in bytes, an int being 4.
 */
public final class RoomTest {
    private static final int CALLS = 50;
    private static final long MOST_FOR_OBJECT = 40_000;
    private static final long MOST_FOR_CALLS = 6_000;
    private static final ThreadMXBean BEAN = (ThreadMXBean) ManagementFactory.getThreadMXBean();
    private static int wrong = 0;

    /** A call that is made again and again. */
    interface Call {
        void ask(StorksLet s, int i);
    }

    private static long made() {
        return BEAN.getThreadAllocatedBytes(Thread.currentThread().getId());
    }

    private static StorksLet fullTown(String rule, int birds) {
        StorksLet s = Due.town("r903@0;r814@1;r725w@2;r636@3;r547@0;r458@1",
            "b5;b6/3;b4;b7/9;b3;b9/20".substring(0, birds == 6 ? 24 : 18), "f0;f1*2;f2*3;f3*9;f0;f1;f2;f3");
        Due.rule(s, rule);
        return s;
    }

    private static void measure(String name, int birds, Call call) {
        for (int turn = 0; turn < 2; turn++) {
            StorksLet s = fullTown("h+v-s+(d/3-d/9*3=r)*5+o", birds);
            Due.frost(s, "0013002");
            s.seen(0, -1, 60);
            Due.aim(s, "543210".substring(0, birds));
            call.ask(s, 0);
            long before = made();
            for (int i = 0; i < CALLS; i++) {
                call.ask(s, i);
            }
            long made = made() - before;
            // The first turn also makes what the machine itself needs to run the call.
            if (turn == 1 && made > MOST_FOR_CALLS) {
                wrong++;
                System.out.println("RoomTest: " + CALLS + " calls of " + name + " make " + made + " bytes");
            }
        }
    }

    private static void measureObject() {
        new StorksLet();
        long before = made();
        StorksLet s = new StorksLet();
        long made = made() - before;
        if (made > MOST_FOR_OBJECT || s.count(0) != 0) {
            wrong++;
            System.out.println("RoomTest: an object makes " + made + " bytes");
        }
    }

    public static void main(String[] args) {
        measureObject();
        measure("days", 6, (s, i) -> s.days(60));
        measure("spring", 6, (s, i) -> Due.spring(s, "w0;s11;d9;w1;x0;d9;f0>2;d9"));
        measure("town", 6, (s, i) -> Due.addTown(s, "f0;f0;f0"));
        measure("rule", 6, (s, i) -> Due.rule(s, "((((h+1)*2)-3)>v)+s*d-o*100+--k*i/f"));
        measure("calm", 6, (s, i) -> s.calm());
        measure("income", 6, (s, i) -> s.income(0, 60));
        measure("bears", 6, (s, i) -> s.bears(60));
        measure("ways", 5, (s, i) -> s.ways());
        measure("kindest", 5, (s, i) -> s.kindest());
        measure("wheel", 6, (s, i) -> s.wheel(i % 4, 60));
        measure("courts", 6, (s, i) -> s.courts(20, 12));
        measure("choose", 6, (s, i) -> s.choose(i % 8, 60));
        measure("win", 6, (s, i) -> s.win(i % 6, i / 6 % 6, 60));
        measure("fewest", 6, (s, i) -> s.fewest());
        measure("gently", 6, (s, i) -> s.gently());
        measure("strengths", 6, (s, i) -> s.strengths(i % 6));
        measure("latest", 6, (s, i) -> s.latest(i % 6));
        measure("absent", 6, (s, i) -> s.absent());
        measure("chance", 6, (s, i) -> s.chance(i % 6, 30, 5));
        measure("safest", 6, (s, i) -> s.safest(30, 5));
        System.out.println("RoomTest: " + wrong + " wrong");
        if (wrong > 0) {
            System.exit(1);
        }
    }
}
