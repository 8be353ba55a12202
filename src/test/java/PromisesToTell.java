/** Promises 1 to 6 and 11, sentence by sentence: what is told to a town, and looked at. */
final class PromisesToTell {
    private static final int MIN = Sentences.MIN;
    private static final int MAX = Sentences.MAX;

    private PromisesToTell() {
    }

    static void test(Sentences s) {
        newObject(s);
        camps(s);
        shorterStages(s);
        shorterStagesForAll(s);
        hours(s);
        racers(s);
        breaks(s);
        breaksWhereNobodyStarts(s);
        settings(s);
        looks(s);
    }

    private static void newObject(Sentences s) {
        s.in("Promise 1");
        s.says("No RACERS, no ZONES.");
        DesertTown town = new DesertTown();
        s.due("racers", town.look(0), 0);
        s.due("zones", town.look(1), 0);
        s.due("kilometers", town.look(2), 700);
        int[] first = {60, 120, 60, 100, 10};
        for (int what = 0; what < 5; what++) {
            s.due("look(" + (3 + what) + ")", town.look(3 + what), first[what]);
        }
        s.due("fault", town.fault(0), 0);
        s.due("its place", town.fault(1), -1);
        s.due("bytes of the tape", Answers.lengthOfTape(town), 0);
        s.due("sets", town.sets(), 0);
        s.due("way of set 0", town.goes(0), -1);
        for (int i = 0; i < 7; i++) {
            s.due("time in " + i, town.time(0, i), -1);
            for (int what = 0; what < 4; what++) {
                s.due("ran in " + i + ", " + what, town.ran(0, i, what), -1);
            }
            s.due("standing of " + i, town.standing(i, 0), -1);
            int[] camp = {0, -1, -1, -1, 100, 1};
            for (int what = 0; what < 6; what++) {
                s.due("of camp " + (i + 1) + ", " + what, town.of(i + 1, what), camp[what]);
            }
            int[] sweep = {0, 0, -1};
            for (int what = 0; what < 3; what++) {
                s.due("sweep of " + i + ", " + what, town.sweep(i, what), sweep[what]);
            }
        }
        town.racer(60);
        Check.book(town, "zone 0 from 0 to 1 at 10;");
        DesertTown other = new DesertTown();
        s.due("racers of a second object", other.look(0), 0);
        s.due("zones of a second object", other.look(1), 0);
    }

    private static void camps(Sentences s) {
        s.in("Promise 2");
        s.says("CAMP c (1 .. 7) is so far behind the one ahead: true;");
        DesertTown town = new DesertTown();
        town.racer(60);
        int[] fars = {1, 2, 899, 900};
        for (int far : fars) {
            for (int c = 1; c <= 7; c++) {
                int before = town.look(2) - town.time(0, c - 1);
                s.due("camp(" + c + ", " + far + ")", town.camp(c, far), true);
                s.due("its stage", town.time(0, c - 1), far);
                s.due("all others as they were", town.look(2), before + far);
            }
        }
        s.says("false, and nothing is done, if one can't be.");
        int[] wrongCamps = {MIN, -1, 0, 8, 9, MAX};
        for (int c : wrongCamps) {
            refusedCamp(s, c, 50);
        }
        int[] wrongFars = {MIN, -50, -1, 0, 901, 1000, MAX};
        for (int far : wrongFars) {
            refusedCamp(s, 1, far);
            // Racer 1 breaks down in stage 3: a refused length ends no break.
            refusedCamp(s, 4, far);
            refusedCamp(s, 7, far);
        }
        refusedCamp(s, 0, 0);
    }

    private static void refusedCamp(Sentences s, int c, int far) {
        s.refused("camp(" + c + ", " + far + ")", Sentences::usual, town -> town.camp(c, far) ? 1 : 0, 0);
    }

    private static void shorterStages(Sentences s) {
        s.says("(Who would BREAK DOWN behind the STAGE's end then does so no more, whatever is told of its length later.)");
        DesertTown town = new DesertTown();
        for (int r = 0; r < 6; r++) {
            town.racer(60);
        }
        town.breaks(0, 2, 0);
        town.breaks(1, 2, 39);
        town.breaks(2, 2, 40);
        town.breaks(3, 2, 41);
        town.breaks(4, 2, 99);
        town.breaks(5, 3, 99);
        s.due("all five of stage 2", town.sweep(2, 1), 31);
        s.due("camp(3, 100)", town.camp(3, 100), true);
        s.due("the same length ends none", town.sweep(2, 1), 31);
        s.due("camp(3, 900)", town.camp(3, 900), true);
        s.due("a greater length ends none", town.sweep(2, 1), 31);
        s.due("camp(2, 1) and camp(4, 100)", town.camp(2, 1) && town.camp(4, 100), true);
        s.due("other lengths end none", town.sweep(2, 1), 31);
        s.due("camp(3, 41)", town.camp(3, 41), true);
        s.due("at 41 and 99 no more", town.sweep(2, 1), 7);
        s.due("they come to the end", town.ran(4, 2, 1), 3240 + 8 + 41);
        s.due("and start again", town.ran(4, 3, 0) >= 0, true);
        s.due("camp(3, 40)", town.camp(3, 40), true);
        s.due("at 40 no more", town.sweep(2, 1), 3);
        s.due("camp(3, 900) later", town.camp(3, 900), true);
        s.due("they do not break down again", town.sweep(2, 1), 3);
        s.due("breaks(4, 2, 99) anew", town.breaks(4, 2, 99), true);
        s.due("what is told anew counts", town.sweep(2, 1), 19);
        s.due("camp(3, 1)", town.camp(3, 1), true);
        s.due("at 0 still", town.sweep(2, 1), 1);
        s.due("stage 3 keeps its own", town.sweep(3, 1), 32);
    }

    private static void shorterStagesForAll(Sentences s) {
        for (int i = 0; i < 7; i++) {
            DesertTown town = new DesertTown();
            for (int r = 0; r < 10; r++) {
                town.racer(60);
                town.breaks(r, i, 90 + r);
            }
            for (int r = 9; r >= 0; r--) {
                s.due("shortened to " + (91 + r), town.camp(i + 1, 91 + r), true);
                s.due("up to " + r + " break down in " + i, town.sweep(i, 1), (2 << r) - 1);
            }
            s.due("shortened to 90", town.camp(i + 1, 90), true);
            s.due("none breaks down in " + i, town.sweep(i, 1), 0);
            s.due("all come to the last end", town.of(7, 0), 10);
        }
    }

    private static void hours(Sentences s) {
        s.in("Promise 3");
        s.says("STAGE i begins at an HOUR: true;");
        DesertTown town = new DesertTown();
        town.racer(60);
        for (int i = 0; i < 7; i++) {
            for (int hour = 0; hour < 24; hour++) {
                s.due("hour(" + i + ", " + hour + ")", town.hour(i, hour), true);
                s.due("start", town.ran(0, i, 0), 1440 * i + 60 * hour);
            }
            s.due("hour(" + i + ", 6)", town.hour(i, 6), true);
        }
        for (int i = 0; i < 7; i++) {
            s.due("each for its own stage, " + i, town.ran(0, i, 0), 1440 * i + 360);
        }
        s.says("false, and nothing is done, if one can't be.");
        int[] wrongStages = {MIN, -1, 7, 8, MAX};
        for (int i : wrongStages) {
            refusedHour(s, i, 12);
        }
        int[] wrongHours = {MIN, -1, 24, 25, MAX};
        for (int hour : wrongHours) {
            refusedHour(s, 0, hour);
            refusedHour(s, 6, hour);
        }
    }

    private static void refusedHour(Sentences s, int i, int hour) {
        s.refused("hour(" + i + ", " + hour + ")", Sentences::usual, town -> town.hour(i, hour) ? 1 : 0, 0);
    }

    private static void racers(Sentences s) {
        s.in("Promise 4");
        s.says("A RACER: the number;");
        DesertTown town = new DesertTown();
        for (int r = 0; r < 10; r++) {
            s.due("how many ahead of it", town.look(0), r);
            s.due("the number", town.racer(r % 2 == 0 ? 10 : 120), r);
            s.due("starts", town.ran(r, 0, 0), 360 + 2 * r);
        }
        s.due("ten", town.look(0), 10);
        s.says("NONE, and nothing is done, if that can't be,");
        int[] wrong = {MIN, -10, -1, 0, 9, 121, 200, MAX};
        for (int speed : wrong) {
            s.refused("racer(" + speed + ")", Sentences::usual, t -> t.racer(speed), -1);
            s.refused("racer(" + speed + ") as the first", t -> { }, t -> t.racer(speed), -1);
        }
        DesertTown after = new DesertTown();
        after.racer(9);
        s.due("a refused one takes no number", after.racer(10), 0);
        after.racer(121);
        s.due("nor later", after.racer(120), 1);
        s.says("or there are 10.");
        int[] any = {9, 10, 60, 120, 121};
        for (int speed : any) {
            s.refused("racer(" + speed + ") as the 11th", PromisesToTell::ten, t -> t.racer(speed), -1);
        }
    }

    private static void ten(DesertTown town) {
        for (int r = 0; r < 10; r++) {
            town.racer(50 + r);
        }
        town.breaks(9, 4, 40);
    }

    private static void breaks(Sentences s) {
        s.in("Promise 5");
        s.says("RACER r BREAKS DOWN in STAGE i at a KILOMETER (in place of what was told; i -1: nowhere): true;");
        DesertTown town = new DesertTown();
        town.racer(60);
        town.racer(60);
        for (int i = 0; i < 7; i++) {
            s.due("breaks(1, " + i + ", 0)", town.breaks(1, i, 0), true);
            s.due("breaks(1, " + i + ", 99)", town.breaks(1, i, 99), true);
            for (int k = 0; k < 7; k++) {
                s.due("taken in " + k + ", told of " + i, town.sweep(k, 1), k == i ? 2 : 0);
            }
        }
        // Stage 6 was told last: going back to an earlier one is in its place too.
        s.due("breaks(1, 2, 50)", town.breaks(1, 2, 50), true);
        s.due("no more in 6", town.sweep(6, 1), 0);
        s.due("but in 2", town.sweep(2, 1), 2);
        int[] anywhere = {MIN, -1, 0, 99, 100, MAX};
        for (int at : anywhere) {
            town.breaks(1, 2, 50);
            s.due("breaks(1, -1, " + at + ")", town.breaks(1, -1, at), true);
            s.due("comes to the last end", town.ran(1, 6, 2), 1);
            s.due("none is taken", town.sweep(2, 1), 0);
        }
        s.due("nowhere once more", town.breaks(1, -1, 0), true);
        s.says("false, and nothing is done, if one can't be.");
        int[][] wrong = {{MIN, 0, 0}, {-1, 0, 0}, {3, 0, 0}, {10, 0, 0}, {MAX, 0, 0}, {-1, -1, 0}, {3, -1, 0},
            {0, MIN, 0}, {0, -2, 0}, {0, 7, 0}, {0, MAX, 0}, {0, 0, MIN}, {0, 0, -1}, {0, 0, 100}, {0, 0, MAX},
            {0, 1, 300}, {0, 6, 100}, {1, 0, 100}, {1, 3, 100}, {1, 3, -1}, {1, 7, 60}, {1, -2, 60}};
        for (int[] w : wrong) {
            s.refused("breaks(" + w[0] + ", " + w[1] + ", " + w[2] + ")", Sentences::usual,
                t -> t.breaks(w[0], w[1], w[2]) ? 1 : 0, 0);
        }
        s.refused("breaks(0, 0, 0) without racers", t -> { }, t -> t.breaks(0, 0, 0) ? 1 : 0, 0);
        s.refused("breaks(0, -1, 0) without racers", t -> { }, t -> t.breaks(0, -1, 0) ? 1 : 0, 0);
        s.due("breaks(0, 1, 299) of 300", Sentences.town(Sentences::usual).breaks(0, 1, 299), true);
    }

    /** A racer breaks down once at most, so what was told of a later stage is gone with what is told of an earlier. */
    private static void breaksWhereNobodyStarts(Sentences s) {
        s.says("(If they do not start there, nothing comes of it.)");
        DesertTown town = new DesertTown();
        town.racer(60);
        town.breaks(0, 5, 10);
        town.breaks(0, 1, 10);
        for (int i = 2; i < 7; i++) {
            s.due("no start in " + i, town.ran(0, i, 0), -1);
            s.due("no sweepers in " + i, town.sweep(i, 0), 0);
            s.due("none taken in " + i, town.sweep(i, 1), 0);
            s.due("none come in " + i, town.sweep(i, 2), -1);
        }
    }

    private static void settings(Sentences s) {
        s.in("Promise 6");
        s.says("What 0 LEAD, 1 STAY, 2 PACE, 3 CREW, 4 litres is v: true;");
        int[] least = {0, 0, 10, 0, 0};
        int[] most = {600, 600, 120, 5000, 50};
        for (int what = 0; what < 5; what++) {
            DesertTown town = new DesertTown();
            int[] taken = {least[what], least[what] + 1, most[what] - 1, most[what]};
            for (int v : taken) {
                s.due("set(" + what + ", " + v + ")", town.set(what, v), true);
                int[] want = {60, 120, 60, 100, 10};
                want[what] = v;
                for (int k = 0; k < 5; k++) {
                    s.due("look(" + (3 + k) + ") then", town.look(3 + k), want[k]);
                }
            }
        }
        s.says("false, and nothing is done, if one can't be.");
        int[] wrongWhats = {MIN, -1, 5, 6, MAX};
        for (int what : wrongWhats) {
            refusedSetting(s, what, 20);
        }
        for (int what = 0; what < 5; what++) {
            int[] wrong = {MIN, least[what] - 1, most[what] + 1, MAX};
            for (int v : wrong) {
                refusedSetting(s, what, v);
            }
        }
    }

    private static void refusedSetting(Sentences s, int what, int v) {
        s.refused("set(" + what + ", " + v + ")", Sentences::usual, town -> town.set(what, v) ? 1 : 0, 0);
    }

    private static void looks(Sentences s) {
        s.in("Promise 11");
        s.says("What 0 RACERS, 1 ZONES, 2 KILOMETERS to CAMP 7, 3 .. 7 what set() tells.");
        DesertTown town = Sentences.town(Sentences::usual);
        int[] want = {3, 2, 900, 90, 600, 10, 200, 7};
        for (int what = 0; what < 8; what++) {
            s.due("look(" + what + ")", town.look(what), want[what]);
        }
        town.camp(7, 900);
        s.due("kilometers with camp 7", town.look(2), 1700);
        town.camp(1, 1);
        s.due("kilometers with camp 1", town.look(2), 1601);
        s.due("book() of the tape", town.book(), 1);
        s.due("zones then", town.look(1), 1);
        s.due("book() of nothing", town.book(), 0);
        s.due("no zones then", town.look(1), 0);
        s.says("NONE for another what.");
        int[] others = {MIN, MIN + 3, -2, -1, 8, 9, MAX - 3, MAX};
        for (int what : others) {
            s.due("look(" + what + ")", town.look(what), -1);
        }
    }
}
