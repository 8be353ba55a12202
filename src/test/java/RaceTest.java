/** Promises 12 to 14: times, starts, arrivals and standings. */
public final class RaceTest {
    private static final Check CHECK = new Check("RaceTest");

    public static void main(String[] args) {
        timeIsDividedOnce();
        zonesBoundSpeeds();
        zonesBehindTheEnd();
        timeOfWhoBreaksDown();
        startsByStanding();
        standingBySumThenNumber();
        brokenOnesAreGone();
        wrongOnes();
        CHECK.finish();
    }

    private static void timeIsDividedOnce() {
        DesertTown town = new DesertTown();
        town.racer(70);
        town.camp(1, 1);
        town.camp(2, 7);
        CHECK.due("1 kilometer at 70", town.time(0, 0), 1);
        CHECK.due("7 kilometers at 70", town.time(0, 1), 6);
        CHECK.due("100 kilometers at 70", town.time(0, 2), 86);
        // 60/70 + 60/11 + 60/13 = 10.93 minutes; each part upwards would be 1 + 6 + 5.
        town.camp(1, 3);
        Check.book(town, "zone 0 from 1 to 2 at 11; zone 0 from 2 to 3 at 13;");
        CHECK.due("three parts", town.time(0, 0), 11);
        // 60/70 + 60/35 + 60/42 = 4 minutes without any rest.
        Check.book(town, "zone 0 from 1 to 2 at 35; zone 0 from 2 to 3 at 42;");
        CHECK.due("three parts without a rest", town.time(0, 0), 4);
    }

    private static void zonesBoundSpeeds() {
        DesertTown town = new DesertTown();
        town.racer(20);
        town.racer(30);
        town.racer(120);
        Check.book(town, "zone 0 from 0 to 100 at 30; zone 1 from 0 to 900 at 10;");
        CHECK.due("slower than the zone", town.time(0, 0), 300);
        CHECK.due("as the zone", town.time(1, 0), 200);
        CHECK.due("faster than the zone", town.time(2, 0), 200);
        CHECK.due("another stage", town.time(2, 1), 600);
        CHECK.due("a stage without zones", town.time(2, 2), 50);
        town.camp(2, 900);
        CHECK.due("the longest time", town.time(2, 1), 5400);
    }

    private static void zonesBehindTheEnd() {
        DesertTown town = new DesertTown();
        town.racer(60);
        Check.book(town, "zone 0 from 10 to 40 at 30; zone 0 from 90 to 200 at 10;");
        CHECK.due("part behind the end", town.time(0, 0), 60 + 60 + 60);
        town.camp(1, 90);
        CHECK.due("the second begins at the end", town.time(0, 0), 60 + 60);
        town.camp(1, 20);
        CHECK.due("part of the first", town.time(0, 0), 10 + 20);
        town.camp(1, 5);
        CHECK.due("all behind the end", town.time(0, 0), 5);
        town.camp(1, 200);
        CHECK.due("all of both", town.time(0, 0), 60 + 60 + 660);
    }

    private static void timeOfWhoBreaksDown() {
        DesertTown town = new DesertTown();
        town.racer(60);
        town.breaks(0, 0, 10);
        CHECK.due("time(0, 0)", town.time(0, 0), 100);
        CHECK.due("time(0, 6)", town.time(0, 6), 100);
    }

    private static void startsByStanding() {
        DesertTown town = new DesertTown();
        town.racer(30);
        town.racer(60);
        town.racer(120);
        CHECK.due("first of stage 0", town.ran(0, 0, 0), 360);
        CHECK.due("second of stage 0", town.ran(1, 0, 0), 362);
        CHECK.due("third of stage 0", town.ran(2, 0, 0), 364);
        CHECK.due("arrival of 2", town.ran(2, 0, 1), 364 + 50);
        CHECK.due("arrival of 0", town.ran(0, 0, 1), 360 + 200);
        CHECK.due("place of 2", town.ran(2, 0, 2), 0);
        CHECK.due("place of 0", town.ran(0, 0, 2), 2);
        CHECK.due("2 starts first", town.ran(2, 1, 0), 1800);
        CHECK.due("1 starts second", town.ran(1, 1, 0), 1802);
        CHECK.due("0 starts third", town.ran(0, 1, 0), 1804);
        CHECK.due("sum of 0", town.ran(0, 6, 3), 1400);
        CHECK.due("sum of 2", town.ran(2, 6, 3), 350);
        town.hour(1, 0);
        town.camp(1, 900);
        CHECK.due("starts do not wait for arrivals", town.ran(0, 1, 0), 1444);
        CHECK.due("who arrives behind that", town.ran(0, 0, 1), 360 + 1800);
    }

    private static void standingBySumThenNumber() {
        DesertTown town = new DesertTown();
        town.racer(60);
        town.racer(120);
        town.racer(60);
        town.racer(120);
        int[] want = {1, 3, 0, 2};
        for (int place = 0; place < 4; place++) {
            CHECK.due("standing(0, " + place + ")", town.standing(0, place), want[place]);
            CHECK.due("place of " + want[place], town.ran(want[place], 0, 2), place);
        }
        // 60 and 120 are alike where all go 50, so the sums of the first stage decide.
        Check.book(town, "zone 0 from 0 to 100 at 50; zone 1 from 0 to 50 at 50;");
        CHECK.due("like sums by numbers", town.standing(0, 0), 0);
        CHECK.due("like sums by numbers", town.standing(0, 3), 3);
        CHECK.due("sum of 1", town.ran(1, 1, 3), 120 + 85);
        CHECK.due("sum of 0", town.ran(0, 1, 3), 120 + 110);
        CHECK.due("by sums", town.standing(1, 0), 1);
        CHECK.due("by sums", town.standing(1, 1), 3);
        CHECK.due("by sums", town.standing(1, 2), 0);
        // A racer who comes later counts from stage 0 on.
        town.racer(119);
        CHECK.due("start of the new one", town.ran(4, 0, 0), 368);
        CHECK.due("place of the new one", town.ran(4, 6, 2), 2);
    }

    private static void brokenOnesAreGone() {
        DesertTown town = new DesertTown();
        for (int r = 0; r < 3; r++) {
            town.racer(60);
        }
        town.breaks(0, 1, 0);
        CHECK.due("came to the end of stage 0", town.standing(0, 0), 0);
        CHECK.due("starts in stage 1", town.ran(0, 1, 0), 1800);
        CHECK.due("no arrival", town.ran(0, 1, 1), -1);
        CHECK.due("no place", town.ran(0, 1, 2), -1);
        CHECK.due("no sum", town.ran(0, 1, 3), -1);
        CHECK.due("sum ahead of it", town.ran(0, 0, 3), 100);
        CHECK.due("first of stage 1", town.standing(1, 0), 1);
        CHECK.due("nobody is third", town.standing(1, 2), -1);
        CHECK.due("1 starts second yet", town.ran(1, 1, 0), 1802);
        CHECK.due("1 starts first then", town.ran(1, 2, 0), 3240);
        CHECK.due("0 starts no more", town.ran(0, 2, 0), -1);
        CHECK.due("nor later", town.ran(0, 6, 0), -1);
    }

    private static void wrongOnes() {
        DesertTown town = new DesertTown();
        town.racer(60);
        int[] wrong = {-1, 1, 10, Integer.MIN_VALUE, Integer.MAX_VALUE};
        for (int r : wrong) {
            CHECK.due("time of racer " + r, town.time(r, 0), -1);
            CHECK.due("ran of racer " + r, town.ran(r, 0, 0), -1);
            CHECK.due("standing place " + r, town.standing(0, r), -1);
        }
        int[] wrongStages = {-1, 7, 8, Integer.MIN_VALUE, Integer.MAX_VALUE};
        for (int i : wrongStages) {
            CHECK.due("time of stage " + i, town.time(0, i), -1);
            CHECK.due("ran of stage " + i, town.ran(0, i, 0), -1);
            CHECK.due("standing of stage " + i, town.standing(i, 0), -1);
        }
        CHECK.due("ran(0, 0, 4)", town.ran(0, 0, 4), -1);
        CHECK.due("ran(0, 0, -1)", town.ran(0, 0, -1), -1);
    }
}
