import java.util.Random;

/** No call throws, whatever its arguments and the town's state; what is refused changes nothing that can be seen. */
public final class AnyArgumentsTest {
    private static final Check CHECK = new Check("AnyArgumentsTest");
    private static final int[] EDGES = {Integer.MIN_VALUE, Integer.MIN_VALUE + 1, -1000, -2, -1, 0, 1, 2, 3, 4, 5, 6, 7, 8,
        9, 10, 20, 99, 100, 120, 121, 600, 601, 900, 901, 5000, Integer.MAX_VALUE - 1, Integer.MAX_VALUE};

    private final Random chance;
    private final DesertTown town = new DesertTown();

    private AnyArgumentsTest(int seed) {
        chance = new Random(seed);
    }

    public static void main(String[] args) {
        for (int seed = 0; seed < 300; seed++) {
            AnyArgumentsTest test = new AnyArgumentsTest(seed);
            for (int k = 0; k < 470; k++) {
                test.call(test.chance.nextInt(18));
            }
            test.refused();
        }
        CHECK.finish();
    }

    private int any() {
        return chance.nextInt(3) == 0 ? chance.nextInt(12) : EDGES[chance.nextInt(EDGES.length)];
    }

    private int call(int which) {
        switch (which) {
            case 0: return town.camp(any(), any()) ? 1 : 0;
            case 1: return town.hour(any(), any()) ? 1 : 0;
            case 2: return town.racer(any());
            case 3: return town.breaks(any(), any(), any()) ? 1 : 0;
            case 4: return town.set(any(), any()) ? 1 : 0;
            case 5: return town.feed(any(), any(), any(), any(), any());
            case 6: return town.end(any()) ? 1 : 0;
            case 7: return town.book();
            case 8: return town.fault(any());
            case 9: return town.look(any());
            case 10: return town.time(any(), any());
            case 11: return town.ran(any(), any(), any());
            case 12: return town.standing(any(), any());
            case 13: return town.of(any(), any());
            case 14: return town.sets();
            case 15: return town.goes(any());
            case 16: return town.sweep(any(), any());
            default: return Check.book(town, "zone 0 from 0 to 900 at 10;");
        }
    }

    private void refused() {
        long before = seen();
        CHECK.due("camp(8, 5)", town.camp(8, 5), false);
        CHECK.due("hour(3, 24)", town.hour(3, 24), false);
        CHECK.due("racer(121)", town.racer(121), -1);
        CHECK.due("breaks(10, 0, 0)", town.breaks(10, 0, 0), false);
        CHECK.due("set(2, 121)", town.set(2, 121), false);
        CHECK.due("what is seen", seen(), before);
    }

    private long seen() {
        long all = town.sets();
        for (int what = 0; what < 8; what++) {
            all = 31 * all + town.look(what);
        }
        all = 31 * all + town.of(7, 2) + town.goes(0);
        return 31 * all + town.ran(0, 6, 3) + town.standing(0, 0);
    }
}
