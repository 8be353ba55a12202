/** Promises 12 to 14, sentence by sentence: times, what racers ran, and standings. */
final class PromisesOfTheRace {
    private static final int MIN = Sentences.MIN;
    private static final int MAX = Sentences.MAX;

    private PromisesOfTheRace() {
    }

    static void test(Sentences s) {
        times(s);
        ran(s);
        ranOfNone(s);
        ranOfWhoDoesNotCome(s);
        standings(s);
        standingsOfNone(s);
    }

    /** Racers at 30, 120, 60 and 120; 3 breaks down in stage 4, all others come to the end. */
    private static DesertTown four() {
        DesertTown town = new DesertTown();
        town.racer(30);
        town.racer(120);
        town.racer(60);
        town.racer(120);
        town.breaks(3, 4, 7);
        return town;
    }

    private static void times(Sentences s) {
        s.in("Promise 12");
        s.says("TIME of RACER r for STAGE i;");
        DesertTown town = four();
        int[] want = {200, 50, 100, 50};
        for (int i = 0; i < 7; i++) {
            for (int r = 0; r < 4; r++) {
                // Also of racer 3 where it breaks down and where it does not start.
                s.due("time(" + r + ", " + i + ")", town.time(r, i), want[r]);
            }
        }
        s.says("NONE if there are none such.");
        int[] wrongRacers = {MIN, -1, 4, 9, 10, MAX};
        for (int r : wrongRacers) {
            s.due("time(" + r + ", 0)", town.time(r, 0), -1);
        }
        int[] wrongStages = {MIN, -1, 7, 8, MAX};
        for (int i : wrongStages) {
            s.due("time(0, " + i + ")", town.time(0, i), -1);
        }
        s.due("time(-1, -1)", town.time(-1, -1), -1);
        s.due("time(0, 0) of no racers", new DesertTown().time(0, 0), -1);
    }

    private static void ran(Sentences s) {
        s.in("Promise 13");
        s.says("Of RACER r in STAGE i what 0 the MINUTE of the start, 1 of ARRIVAL, 2 the place in STANDING at its end"
            + " (0 ..), 3 the sum of TIMES at its end.");
        DesertTown town = four();
        int[] times = {200, 50, 100, 50};
        int[] places = {3, 0, 2, 1};
        for (int i = 0; i < 4; i++) {
            for (int r = 0; r < 4; r++) {
                int start = 1440 * i + 360 + 2 * (i == 0 ? r : places[r]);
                String who = " of " + r + " in " + i;
                s.due("start" + who, town.ran(r, i, 0), start);
                s.due("arrival" + who, town.ran(r, i, 1), start + times[r]);
                s.due("place" + who, town.ran(r, i, 2), places[r]);
                s.due("sum" + who, town.ran(r, i, 3), times[r] * (i + 1));
            }
        }
        int[] later = {2, 0, 1};
        for (int i = 4; i < 7; i++) {
            for (int r = 0; r < 3; r++) {
                int start = 1440 * i + 360 + 2 * (i == 4 ? places[r] : later[r]);
                String who = " of " + r + " in " + i;
                s.due("start" + who, town.ran(r, i, 0), start);
                s.due("arrival" + who, town.ran(r, i, 1), start + times[r]);
                s.due("place" + who, town.ran(r, i, 2), later[r]);
                s.due("sum" + who, town.ran(r, i, 3), times[r] * (i + 1));
            }
        }
        DesertTown longest = new DesertTown();
        longest.racer(10);
        for (int c = 1; c <= 7; c++) {
            longest.camp(c, 900);
        }
        s.due("the greatest sum", longest.ran(0, 6, 3), 7 * 5400);
    }

    private static void ranOfNone(Sentences s) {
        s.says("NONE: no such ones,");
        DesertTown town = four();
        int[] wrongRacers = {MIN, -1, 4, 10, MAX};
        int[] wrongStages = {MIN, -1, 7, MAX};
        for (int what = 0; what < 4; what++) {
            for (int r : wrongRacers) {
                s.due("ran(" + r + ", 0, " + what + ")", town.ran(r, 0, what), -1);
            }
            for (int i : wrongStages) {
                s.due("ran(0, " + i + ", " + what + ")", town.ran(0, i, what), -1);
            }
            s.due("ran(0, 0, " + what + ") of no racers", new DesertTown().ran(0, 0, what), -1);
        }
        s.says("or another what.");
        int[] others = {MIN, -1, 4, 5, MAX};
        for (int what : others) {
            s.due("ran(0, 0, " + what + ")", town.ran(0, 0, what), -1);
            s.due("ran(3, 6, " + what + ")", town.ran(3, 6, what), -1);
        }
    }

    private static void ranOfWhoDoesNotCome(Sentences s) {
        s.says("they do not start (1, 2, 3: do not come to the end),");
        DesertTown town = four();
        // All breaks are where the fastest would stand: none of their places or sums is left behind.
        s.due("3 starts in 4", town.ran(3, 4, 0), 4 * 1440 + 362);
        for (int what = 1; what < 4; what++) {
            s.due("3 does not come to its end, " + what, town.ran(3, 4, what), -1);
        }
        for (int i = 5; i < 7; i++) {
            for (int what = 0; what < 4; what++) {
                s.due("3 does not start in " + i + ", " + what, town.ran(3, i, what), -1);
            }
        }
        town.breaks(3, 0, 0);
        s.due("3 starts in 0", town.ran(3, 0, 0), 366);
        s.due("its sum of none", town.ran(3, 0, 3), -1);
        s.due("no start in 1", town.ran(3, 1, 0), -1);
        s.due("no start in 4", town.ran(3, 4, 0), -1);
        town.breaks(3, -1, 0);
        s.due("comes again", town.ran(3, 6, 2), 1);
        s.due("with its whole sum", town.ran(3, 6, 3), 350);
    }

    private static void standings(Sentences s) {
        s.in("Promise 14");
        s.says("Who is at a place in STANDING at the end of STAGE i;");
        DesertTown town = four();
        int[] want = {1, 3, 2, 0};
        for (int i = 0; i < 4; i++) {
            for (int place = 0; place < 4; place++) {
                s.due("standing(" + i + ", " + place + ")", town.standing(i, place), want[place]);
            }
        }
        int[] later = {1, 2, 0};
        for (int i = 4; i < 7; i++) {
            for (int place = 0; place < 3; place++) {
                s.due("standing(" + i + ", " + place + ")", town.standing(i, place), later[place]);
            }
        }
        DesertTown ten = new DesertTown();
        for (int r = 0; r < 10; r++) {
            ten.racer(20 + 10 * r);
        }
        for (int place = 0; place < 10; place++) {
            s.due("place " + place + " of ten", ten.standing(6, place), 9 - place);
        }
        s.due("place 10 of ten", ten.standing(6, 10), -1);
    }

    private static void standingsOfNone(Sentences s) {
        s.says("NONE if there is none such.");
        DesertTown town = four();
        int[] wrongStages = {MIN, -1, 7, 8, MAX};
        for (int i : wrongStages) {
            s.due("standing(" + i + ", 0)", town.standing(i, 0), -1);
        }
        int[] wrongPlaces = {MIN, -1, 4, 9, 10, MAX};
        for (int place : wrongPlaces) {
            s.due("standing(0, " + place + ")", town.standing(0, place), -1);
        }
        for (int i = 4; i < 7; i++) {
            s.due("standing(" + i + ", 3) of three", town.standing(i, 3), -1);
        }
        for (int r = 0; r < 4; r++) {
            town.breaks(r, 2, 0);
        }
        s.due("all came to the end of 1", town.standing(1, 3), 0);
        for (int i = 2; i < 7; i++) {
            s.due("none came to the end of " + i, town.standing(i, 0), -1);
        }
        s.due("of no racers", new DesertTown().standing(0, 0), -1);
    }
}
