/** Promises 15 to 18, sentence by sentence: camps, sets and sweepers. */
final class PromisesOfTheTown {
    private static final int MIN = Sentences.MIN;
    private static final int MAX = Sentences.MAX;

    private PromisesOfTheTown() {
    }

    static void test(Sentences s) {
        camps(s);
        campsOfNone(s);
        sets(s);
        ways(s);
        waysOfNone(s);
        sweepers(s);
        sweepersOfNone(s);
        allCallsOfAnObject(s);
    }

    /** 60 at 60, 30 at 30: the slower one breaks down in stage 2, the faster one in stage 4. */
    private static DesertTown two() {
        DesertTown town = new DesertTown();
        town.racer(60);
        town.racer(30);
        town.breaks(0, 4, 0);
        town.breaks(1, 2, 0);
        town.set(3, 198);
        town.set(4, 5);
        return town;
    }

    private static void camps(Sentences s) {
        s.in("Promise 15");
        s.says("Of CAMP c what 0 how many ARRIVE, 1, 2 the MINUTES from .. to which it needs a KITCHEN, 3 its SET,"
            + " 4 PEOPLE, 5 TANKS.");
        int[][] want = {{2, 400, 682, 0, 200, 1}, {2, 1840, 2122, 0, 200, 1}, {1, 3280, 3460, 0, 199, 1},
            {1, 4720, 4900, 0, 199, 1}, {0, -1, -1, -1, 198, 1}, {0, -1, -1, -1, 198, 1}, {0, -1, -1, -1, 198, 1}};
        DesertTown town = two();
        for (int c = 1; c <= 7; c++) {
            for (int what = 0; what < 6; what++) {
                s.due("of(" + c + ", " + what + ")", town.of(c, what), want[c - 1][what]);
            }
        }
        town.set(3, 199);
        s.due("1005 litres of camp 1", town.of(1, 5), 2);
        s.due("1000 litres of camp 4", town.of(4, 5), 1);
        s.due("995 litres of camp 5", town.of(5, 5), 1);
        DesertTown ten = new DesertTown();
        for (int r = 0; r < 10; r++) {
            ten.racer(60);
        }
        for (int c = 1; c <= 7; c++) {
            s.due("ten arrive at " + c, ten.of(c, 0), 10);
            s.due("110 people at " + c, ten.of(c, 4), 110);
            s.due("1100 litres at " + c, ten.of(c, 5), 2);
        }
    }

    private static void campsOfNone(Sentences s) {
        s.says("NONE: no such CAMP (1 .. 7),");
        DesertTown town = two();
        int[] wrongCamps = {MIN, -1, 0, 8, 9, MAX};
        for (int c : wrongCamps) {
            for (int what = -1; what < 7; what++) {
                s.due("of(" + c + ", " + what + ")", town.of(c, what), -1);
            }
        }
        int[] others = {MIN, -1, 6, 7, MAX};
        for (int what : others) {
            s.due("of(1, " + what + ")", town.of(1, what), -1);
            s.due("of(7, " + what + ")", town.of(7, what), -1);
        }
        s.says("or for 1, 2, 3 none ARRIVES.");
        int[] want = {0, -1, -1, -1, 100, 1};
        DesertTown empty = new DesertTown();
        for (int c = 1; c <= 7; c++) {
            for (int what = 0; what < 6; what++) {
                s.due("of(" + c + ", " + what + ") of no racers", empty.of(c, what), want[what]);
            }
        }
        // What a camp needed once is not answered when none arrives there any more.
        s.due("a kitchen of camp 1", town.of(1, 1), 400);
        town.breaks(0, 0, 0);
        town.breaks(1, 0, 0);
        for (int what = 1; what < 4; what++) {
            s.due("of(1, " + what + ") then", town.of(1, what), -1);
        }
        s.due("none arrives", town.of(1, 0), 0);
        s.due("the crew is there", town.of(1, 4), 198);
    }

    private static void sets(Sentences s) {
        s.in("Promise 16");
        s.says("The fewest SETS (0 without any ARRIVAL).");
        DesertTown town = new DesertTown();
        s.due("without racers", town.sets(), 0);
        town.racer(60);
        s.due("one for seven camps", town.sets(), 1);
        town.breaks(0, 0, 99);
        s.due("nobody comes to any camp", town.sets(), 0);
        town.breaks(0, 1, 0);
        s.due("one camp alone", town.sets(), 1);
        town.breaks(0, -1, 0);
        town.set(0, 600);
        town.set(1, 600);
        town.set(2, 24);
        // 240 minutes between neighbours do not do 250; with 25 kilometers an hour they do.
        s.due("two in turn", town.sets(), 2);
        town.set(2, 25);
        s.due("one again", town.sets(), 1);
        town.set(2, 10);
        for (int c = 1; c <= 7; c++) {
            town.camp(c, 900);
        }
        s.due("one for each", town.sets(), 7);
        town.breaks(0, 6, 0);
        s.due("but for the last", town.sets(), 6);
    }

    private static void ways(Sentences s) {
        s.in("Promise 17");
        s.says("KILOMETERS that SET s goes from its first CAMP to its last;");
        DesertTown town = new DesertTown();
        town.racer(60);
        s.due("from camp 1 to camp 7", town.goes(0), 600);
        town.camp(1, 1);
        s.due("the way to camp 1 does not count", town.goes(0), 600);
        town.camp(7, 1);
        s.due("the way to camp 7 does", town.goes(0), 501);
        town.breaks(0, 6, 0);
        s.due("not where none arrives", town.goes(0), 500);
        town.breaks(0, 1, 0);
        s.due("of one camp", town.goes(0), 0);
        town.breaks(0, -1, 0);
        town.camp(1, 100);
        town.camp(7, 100);
        town.set(0, 600);
        town.set(1, 600);
        town.set(2, 10);
        s.due("camps 1, 3, 5, 7", town.goes(0), 600);
        s.due("camps 2, 4, 6", town.goes(1), 400);
        town.breaks(0, 2, 0);
        s.due("camp 1 alone", town.goes(0), 0);
        s.due("camp 2 alone", town.goes(1), 0);
    }

    private static void waysOfNone(Sentences s) {
        s.says("NONE if there is none such.");
        DesertTown town = new DesertTown();
        s.due("goes(0) without any", town.goes(0), -1);
        town.racer(60);
        int[] wrong = {MIN, -1, 1, 2, 7, MAX};
        for (int k : wrong) {
            s.due("goes(" + k + ") of one", town.goes(k), -1);
        }
        town.set(2, 10);
        for (int c = 1; c <= 7; c++) {
            town.camp(c, 900);
        }
        for (int k = 0; k < 7; k++) {
            s.due("goes(" + k + ") of seven", town.goes(k), 0);
        }
        s.due("goes(7) of seven", town.goes(7), -1);
        s.due("goes(-1) of seven", town.goes(-1), -1);
        town.breaks(0, 0, 0);
        s.due("goes(0) when none arrives any more", town.goes(0), -1);
    }

    private static void sweepers(Sentences s) {
        s.in("Promise 18");
        s.says("Of the SWEEPERS of STAGE i what 0 how many, 1 whom they take (a set), 2 the MINUTE at which they come to the"
            + " end (NONE without any).");
        DesertTown town = new DesertTown();
        for (int r = 0; r < 10; r++) {
            town.racer(60);
        }
        for (int i = 0; i < 7; i++) {
            s.due("none are needed in " + i, town.sweep(i, 0), 0);
            s.due("none are taken in " + i, town.sweep(i, 1), 0);
            s.due("none come in " + i, town.sweep(i, 2), -1);
        }
        town.breaks(0, 0, 5);
        town.breaks(9, 0, 5);
        town.breaks(5, 6, 5);
        s.due("one in 0", town.sweep(0, 0), 1);
        s.due("0 and 9 in 0", town.sweep(0, 1), 513);
        s.due("coming in 0", town.sweep(0, 2), 378 + 60 + 200 + 30);
        s.due("one in 6", town.sweep(6, 0), 1);
        s.due("5 in 6", town.sweep(6, 1), 32);
        s.due("coming in 6 behind eight starts", town.sweep(6, 2), 9000 + 14 + 60 + 200 + 15);
        for (int r = 0; r < 10; r++) {
            town.breaks(r, 3, r);
        }
        s.due("three for ten", town.sweep(3, 0), 3);
        s.due("all ten", town.sweep(3, 1), 1023);
        s.due("coming with ten", town.sweep(3, 2), 4680 + 18 + 60 + 200 + 150);
        s.due("none in 0 any more", town.sweep(0, 1), 0);
        s.due("none come in 6 any more", town.sweep(6, 2), -1);
    }

    private static void sweepersOfNone(Sentences s) {
        s.says("NONE if there is none such, or another what.");
        DesertTown town = two();
        int[] wrongStages = {MIN, -1, 7, 8, MAX};
        for (int i : wrongStages) {
            for (int what = -1; what < 4; what++) {
                s.due("sweep(" + i + ", " + what + ")", town.sweep(i, what), -1);
            }
        }
        int[] others = {MIN, -1, 3, 4, MAX};
        for (int what : others) {
            for (int i = 0; i < 7; i++) {
                s.due("sweep(" + i + ", " + what + ")", town.sweep(i, what), -1);
            }
        }
    }

    /** An object answers rightly to its 512th call. */
    private static void allCallsOfAnObject(Sentences s) {
        DesertTown town = two();
        for (int call = 7; call <= 512; call++) {
            s.due("call " + call, town.sweep(2, 1), 2);
        }
    }
}
