import java.lang.management.ManagementFactory;

/** What calls make: 512 calls of the dearest sorts stay far below the room that all calls of a run share. */
public final class RoomTest {
    private static final int CALLS = 512;
    private static final long MOST_BYTES_A_CALL = 1500, MOST_BYTES_OF_NEW = 12000;
    private static final String FULL_VALLEY = "note 0:1,2,3,4,5,6;note 0:1,2,3,4,5,6;note 0:1,2,3,4,5,6;note 1:1,2,3,4,5,6;"
            + "note 1:1,2,3,4,5,6;note 2:9,2,3,4,5,7;sum 0 3 5;same 0 3;more 5 0;more 0 5;";

    private static long sink = 0;

    public static void main(String[] args) {
        com.sun.management.ThreadMXBean bean = (com.sun.management.ThreadMXBean) ManagementFactory.getThreadMXBean();
        long[] made = new long[8];
        for (int sort = 0; sort < made.length; sort++) {
            RoomNumbers x = Checks.told(FULL_VALLEY);
            x.keep();
            long ahead = bean.getCurrentThreadAllocatedBytes();
            for (int i = 0; i < CALLS; i++) call(x, sort, i);
            made[sort] = bean.getCurrentThreadAllocatedBytes() - ahead;
        }
        for (int sort = 0; sort < made.length; sort++) {
            Checks.due("calls of sort " + sort + " make " + made[sort] / CALLS + " bytes each", made[sort] / CALLS <= MOST_BYTES_A_CALL ? 1 : 0, 1);
        }
        long ahead = bean.getCurrentThreadAllocatedBytes();
        sink += new RoomNumbers().many(0);
        long ofNew = bean.getCurrentThreadAllocatedBytes() - ahead;
        Checks.due("a new object makes " + ofNew + " bytes", ofNew <= MOST_BYTES_OF_NEW ? 1 : 0, 1);
        Checks.finish();
    }

    private static void call(RoomNumbers x, int sort, int i) {
        switch (sort) {
            case 0: sink += x.again(); break;
            case 1: sink += x.keep(); break;
            case 2: sink += x.sheet(i & 3, 3, 40); break;
            case 3:
                x.alter(0, 0, i & 3);
                sink += x.mended(0) + x.proof() + x.which(1);
                break;
            case 4:
                x.move(0, i % 3);
                sink += x.worlds() + x.prove(0) + x.judge();
                break;
            case 5: sink += x.add(0, 1); break;
            case 6:
                if (i % 20 == 0) Checks.feedText(x, FULL_VALLEY);
                sink += x.valley();
                break;
            default:
                x.shelf(0, 0, i % 6);
                sink += x.act(0, 3, i) + x.trace(0) + x.written(i, 2, 0) + x.shortest(i, 131068);
                break;
        }
    }
}
