/** Promise 18: sweepers. */
public final class SweepTest {
    private static final Check CHECK = new Check("SweepTest");

    public static void main(String[] args) {
        fourByEach();
        comingToTheEnd();
        onlyThoseOfTheStage();
        wrongOnes();
        CHECK.finish();
    }

    private static void fourByEach() {
        int[] want = {0, 1, 1, 1, 1, 2, 2, 2, 2, 3, 3};
        DesertTown town = new DesertTown();
        for (int r = 0; r < 10; r++) {
            town.racer(60);
        }
        for (int n = 0; n <= 10; n++) {
            CHECK.due("sweepers for " + n, town.sweep(0, 0), want[n]);
            CHECK.due("whom they take, " + n, town.sweep(0, 1), (1 << n) - 1);
            CHECK.due("coming, " + n, town.sweep(0, 2), n == 0 ? -1 : 360 + 18 + 60 + 200 + 15 * n);
            if (n < 10) {
                town.breaks(n, 0, 99 - n);
            }
        }
    }

    private static void comingToTheEnd() {
        DesertTown town = new DesertTown();
        town.racer(60);
        town.racer(60);
        town.racer(60);
        town.breaks(0, 0, 5);
        town.breaks(1, 1, 899);
        CHECK.due("beyond the length", town.sweep(1, 0), 0);
        town.camp(2, 900);
        town.hour(1, 23);
        town.breaks(1, 1, 899);
        // Two start in stage 1, since one is gone.
        CHECK.due("coming", town.sweep(1, 2), 1440 + 23 * 60 + 2 + 60 + 1800 + 15);
        town.camp(2, 1);
        CHECK.due("no break behind the end", town.sweep(1, 2), -1);
    }

    private static void onlyThoseOfTheStage() {
        DesertTown town = new DesertTown();
        town.racer(60);
        town.racer(60);
        town.breaks(1, 3, 5);
        for (int i = 0; i < 7; i++) {
            CHECK.due("sweepers of " + i, town.sweep(i, 0), i == 3 ? 1 : 0);
            CHECK.due("taken of " + i, town.sweep(i, 1), i == 3 ? 2 : 0);
        }
        town.breaks(1, -1, 0);
        CHECK.due("no more", town.sweep(3, 0), 0);
    }

    private static void wrongOnes() {
        DesertTown town = new DesertTown();
        town.racer(60);
        town.breaks(0, 0, 5);
        int[] wrong = {-1, 7, Integer.MIN_VALUE, Integer.MAX_VALUE};
        for (int i : wrong) {
            for (int what = 0; what < 3; what++) {
                CHECK.due("sweep(" + i + ", " + what + ")", town.sweep(i, what), -1);
            }
        }
        CHECK.due("sweep(0, 3)", town.sweep(0, 3), -1);
        CHECK.due("sweep(0, -1)", town.sweep(0, -1), -1);
        CHECK.due("nobody starts", town.sweep(1, 0), 0);
        CHECK.due("nobody is taken", town.sweep(1, 1), 0);
        CHECK.due("nobody comes", town.sweep(1, 2), -1);
    }
}
