import com.sun.management.ThreadMXBean;
import java.lang.management.ManagementFactory;

/** That runs of calls, the dearest ones too, make little: far less than 7.3 million elements of 8 bytes. */
public final class RoomTest {
    private static final long MOST_BYTES = 40_000_000;
    private static final Bench b = new Bench("RoomTest");
    private static final ThreadMXBean meter = (ThreadMXBean) ManagementFactory.getThreadMXBean();
    private static int calls;

    public static void main(String[] args) {
        b.line("i.3", "3: 0 1 2");
        String names = "a=.-b=.-c=.-d=.-e=.-f=.-g=.-h=.-j=.-k=.-l=.-m=.-n=.-o=.-p=.-q=.-r=.-s=.-t=.-u=.-a";
        String binds = "(-a)&+".repeat(20) + "a";
        String[] dearest = {names, binds, "a=.".repeat(120) + "i.4096", "+/\"0+/\\i.400", "+/@,\"0(i.4096)", "~.a,a",
            "a i.a", "a e.\"0 1(20$a)", "+/\\a", "f=.(1&+)@(1&+)@(1&+)@(1&+)@(1&+) f f f f f f a", "1%0", "|:64 64$a"};
        for (String line : dearest) {
            long before = meter.getCurrentThreadAllocatedBytes();
            b.fresh();
            calls = 0;
            play("a=.i.4096");
            while (calls < 512) {
                play(line);
            }
            long bytes = meter.getCurrentThreadAllocatedBytes() - before;
            b.due(line + " makes " + bytes, true, bytes < MOST_BYTES);
        }
        b.fresh();
        long before = meter.getCurrentThreadAllocatedBytes();
        for (int k = 0; k < 40; k++) {
            b.assemble("a: vsetivli x1,16,e32,m8\nvid.v v8\nli x1,99999\nj a");
            b.tongue.steps(20000);
            b.tongue.vector(16);
        }
        b.due("the machine", true, meter.getCurrentThreadAllocatedBytes() - before < 1_000_000);
        b.end();
    }

    private static void play(String line) {
        b.feed(line);
        b.tongue.line();
        calls += (line.length() + 7) / 8 + 1;
    }
}
