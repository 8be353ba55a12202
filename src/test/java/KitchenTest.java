/** Promises 15 to 17: camps, kitchens, sets and water. */
public final class KitchenTest {
    private static final Check CHECK = new Check("KitchenTest");

    public static void main(String[] args) {
        needs();
        needBeforeTheFirstMinute();
        peopleAndWater();
        latestComing();
        leastSetStill();
        leastSetNoMore();
        firstAndLastAreNotByStanding();
        aSetOfItsOwnForEach();
        noSetGoesBack();
        wrongOnes();
        CHECK.finish();
    }

    private static void needs() {
        DesertTown town = new DesertTown();
        town.racer(30);
        town.racer(120);
        town.racer(60);
        CHECK.due("how many", town.of(1, 0), 3);
        CHECK.due("from the first arrival, not the first start", town.of(1, 1), 362 + 50 - 60);
        CHECK.due("to the last arrival", town.of(1, 2), 360 + 200 + 120);
        town.set(0, 0);
        town.set(1, 0);
        CHECK.due("without lead", town.of(1, 1), 362 + 50);
        CHECK.due("without stay", town.of(1, 2), 360 + 200);
        town.breaks(1, 0, 3);
        CHECK.due("who does not come does not count", town.of(1, 1), 364 + 100);
        CHECK.due("how many come", town.of(1, 0), 2);
        CHECK.due("of camp 7", town.of(7, 2), 6 * 1440 + 362 + 200);
    }

    private static void needBeforeTheFirstMinute() {
        DesertTown town = new DesertTown();
        town.racer(120);
        town.hour(0, 0);
        town.camp(1, 1);
        town.set(0, 600);
        CHECK.due("below minute 0", town.of(1, 1), -599);
    }

    private static void peopleAndWater() {
        DesertTown town = new DesertTown();
        CHECK.due("crew alone", town.of(7, 4), 100);
        CHECK.due("1000 litres", town.of(7, 5), 1);
        town.racer(60);
        CHECK.due("crew and racer", town.of(7, 4), 101);
        CHECK.due("1010 litres", town.of(7, 5), 2);
        town.breaks(0, 6, 0);
        CHECK.due("at camp 6 they are", town.of(6, 4), 101);
        CHECK.due("at camp 7 they are not", town.of(7, 4), 100);
        town.set(4, 0);
        CHECK.due("no litres", town.of(1, 5), 0);
        town.set(3, 0);
        town.set(4, 50);
        CHECK.due("50 litres", town.of(1, 5), 1);
        CHECK.due("nobody", town.of(7, 5), 0);
        CHECK.due("no people", town.of(7, 4), 0);
        town.set(3, 5000);
        CHECK.due("250000 litres", town.of(7, 5), 250);
        CHECK.due("250050 litres", town.of(1, 5), 251);
    }

    /** Camp 1 closes at 460 + stay, camp 2 opens at 1900 - lead; 100 kilometers lie between. */
    private static void latestComing() {
        DesertTown town = new DesertTown();
        town.racer(60);
        town.breaks(0, 2, 0);
        town.set(0, 600);
        town.set(1, 600);
        town.set(2, 26);
        // 240 minutes are there; 100 kilometers at 26 take 230.8, at 25 just 240.
        CHECK.due("in time", town.sets(), 1);
        CHECK.due("way of the set", town.goes(0), 100);
        town.set(2, 25);
        CHECK.due("just in time", town.sets(), 1);
        town.set(2, 24);
        CHECK.due("too late", town.sets(), 2);
        CHECK.due("set of camp 2", town.of(2, 3), 1);
        CHECK.due("way of a set with one camp", town.goes(0), 0);
        CHECK.due("way of the other", town.goes(1), 0);
        // 239 minutes are there for 100 kilometers at 26 (230.8: 231 minutes): then a rest decides.
        town.set(2, 26);
        town.camp(1, 109);
        // The arrival at camp 1 is 9 later: 231 are there.
        CHECK.due("upwards in time", town.sets(), 1);
        town.camp(1, 110);
        CHECK.due("upwards too late", town.sets(), 2);
    }

    private static void leastSetStill() {
        DesertTown town = new DesertTown();
        town.racer(60);
        town.set(0, 600);
        town.set(1, 600);
        town.set(2, 10);
        // 240 minutes between neighbours do not do 600; between next but one 1680 do 1200.
        int[] want = {0, 1, 0, 1, 0, 1, 0};
        for (int c = 1; c <= 7; c++) {
            CHECK.due("set of camp " + c, town.of(c, 3), want[c - 1]);
        }
        CHECK.due("sets", town.sets(), 2);
        CHECK.due("goes(0)", town.goes(0), 600);
        CHECK.due("goes(1)", town.goes(1), 400);
        // Camp 4 near to camp 3 can be done by set 0; the least one is taken though both can.
        town.camp(4, 20);
        CHECK.due("set of camp 4", town.of(4, 3), 0);
        CHECK.due("set of camp 5", town.of(5, 3), 1);
    }

    /** Set 0 could do camp 3, but camp 4 can be done behind camp 1 alone: with two sets camp 3 falls to set 1. */
    private static void leastSetNoMore() {
        DesertTown town = new DesertTown();
        town.racer(10);
        town.camp(1, 462);
        town.camp(2, 301);
        town.camp(3, 900);
        town.camp(4, 1);
        town.breaks(0, 4, 0);
        int[] want = {0, 1, 1, 0};
        for (int c = 1; c <= 4; c++) {
            CHECK.due("set of camp " + c, town.of(c, 3), want[c - 1]);
        }
        CHECK.due("sets", town.sets(), 2);
        CHECK.due("goes(0)", town.goes(0), 301 + 900 + 1);
        CHECK.due("goes(1)", town.goes(1), 900);
        town.camp(2, 300);
        CHECK.due("camp 4 behind camp 2 too", town.of(3, 3), 0);
        CHECK.due("set of camp 4 then", town.of(4, 3), 1);
    }

    /** Who is first in standing may arrive behind the second, by the start. */
    private static void firstAndLastAreNotByStanding() {
        DesertTown town = new DesertTown();
        town.racer(99);
        town.racer(100);
        town.set(0, 0);
        town.set(1, 0);
        CHECK.due("first in standing", town.standing(0, 0), 1);
        CHECK.due("first arrival", town.of(1, 1), 360 + 61);
        CHECK.due("last arrival", town.of(1, 2), 362 + 60);
    }

    private static void aSetOfItsOwnForEach() {
        DesertTown town = new DesertTown();
        town.racer(10);
        town.racer(120);
        Check.book(town, "");
        for (int c = 1; c <= 7; c++) {
            town.camp(c, 900);
        }
        town.set(1, 600);
        town.set(2, 10);
        CHECK.due("sets", town.sets(), 7);
        for (int c = 1; c <= 7; c++) {
            CHECK.due("set of camp " + c, town.of(c, 3), c - 1);
            CHECK.due("goes", town.goes(c - 1), 0);
        }
        CHECK.due("goes(7)", town.goes(7), -1);
    }

    /** The time of camp 1 is behind that of camp 2 here; a set goes on along the row alone. */
    private static void noSetGoesBack() {
        DesertTown town = new DesertTown();
        town.racer(10);
        town.camp(1, 900);
        town.camp(2, 1);
        town.breaks(0, 2, 0);
        CHECK.due("camp 1 opens", town.of(1, 1), 360 + 5400 - 60);
        CHECK.due("camp 2 closes", town.of(2, 2), 1800 + 6 + 120);
        CHECK.due("sets", town.sets(), 2);
        CHECK.due("set of camp 2", town.of(2, 3), 1);
    }

    private static void wrongOnes() {
        DesertTown town = new DesertTown();
        CHECK.due("goes(0) without arrivals", town.goes(0), -1);
        CHECK.due("sets() without arrivals", town.sets(), 0);
        for (int what = 1; what <= 3; what++) {
            CHECK.due("of(1, " + what + ") without arrivals", town.of(1, what), -1);
        }
        CHECK.due("of(1, 0) without arrivals", town.of(1, 0), 0);
        town.racer(60);
        int[] wrong = {-1, 0, 8, Integer.MIN_VALUE, Integer.MAX_VALUE};
        for (int c : wrong) {
            for (int what = 0; what < 6; what++) {
                CHECK.due("of(" + c + ", " + what + ")", town.of(c, what), -1);
            }
        }
        CHECK.due("of(1, 6)", town.of(1, 6), -1);
        CHECK.due("of(1, -1)", town.of(1, -1), -1);
        CHECK.due("goes(-1)", town.goes(-1), -1);
        CHECK.due("goes(1)", town.goes(1), -1);
        CHECK.due("goes(max)", town.goes(Integer.MAX_VALUE), -1);
        town.breaks(0, 0, 0);
        CHECK.due("sets() when all broke down", town.sets(), 0);
        CHECK.due("goes(0) when all broke down", town.goes(0), -1);
    }
}
