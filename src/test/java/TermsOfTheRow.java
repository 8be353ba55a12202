/** The document's terms of camps, stages, minutes and racers, sentence by sentence. */
final class TermsOfTheRow {
    private TermsOfTheRow() {
    }

    static void test(Sentences s) {
        s.in("Terms");
        campsInARow(s);
        stagesAndHours(s);
        minutes(s);
        racers(s);
        breakingDown(s);
        none(s);
    }

    private static void campsInARow(Sentences s) {
        s.says("CAMPS 0 .. 7 lie in a row, CAMP 0 at KILOMETER 0, each next one farther on (by 1 .. 900; 100 at first).");
        DesertTown town = new DesertTown();
        town.racer(60);
        for (int i = 0; i < 7; i++) {
            s.due("kilometers to the next camp, at first, from " + i, town.time(0, i), 100);
        }
        s.due("to camp 7 at first", town.look(2), 700);
        for (int c = 1; c <= 7; c++) {
            s.due("camp(" + c + ", 1)", town.camp(c, 1), true);
            s.due("camp(" + c + ", 0)", town.camp(c, 0), false);
            s.due("to camp 7, up to " + c + " by 1", town.look(2), 700 - 99 * c);
        }
        for (int c = 1; c <= 7; c++) {
            s.due("camp(" + c + ", 900)", town.camp(c, 900), true);
            s.due("camp(" + c + ", 901)", town.camp(c, 901), false);
            s.due("to camp 7, up to " + c + " by 900", town.look(2), 7 + 899 * c);
        }
        s.due("camp(0, 1)", town.camp(0, 1), false);
        s.due("camp(8, 1)", town.camp(8, 1), false);
        s.due("camp 0 is no camp to arrive at", town.of(0, 0), -1);
        s.due("camp 8 is none", town.of(8, 0), -1);
    }

    private static void stagesAndHours(Sentences s) {
        s.says("STAGE i (0 .. 6) goes from CAMP i to CAMP i + 1 on DAY i, from an HOUR of it on (0 .. 23, 6 at first).");
        DesertTown town = new DesertTown();
        town.racer(60);
        for (int i = 0; i < 7; i++) {
            s.due("start of stage " + i + " at first", town.ran(0, i, 0), 1440 * i + 360);
            s.due("camp(" + (i + 1) + ", ..)", town.camp(i + 1, 10 + i), true);
            s.due("length of stage " + i, town.time(0, i), 10 + i);
            s.due("hour(" + i + ", 0)", town.hour(i, 0), true);
            s.due("start of stage " + i + " at 0", town.ran(0, i, 0), 1440 * i);
            s.due("hour(" + i + ", -1)", town.hour(i, -1), false);
            s.due("hour(" + i + ", 23)", town.hour(i, 23), true);
            s.due("hour(" + i + ", 24)", town.hour(i, 24), false);
            s.due("start of stage " + i + " at 23", town.ran(0, i, 0), 1440 * i + 1380);
        }
        s.due("hour(-1, 6)", town.hour(-1, 6), false);
        s.due("hour(7, 6)", town.hour(7, 6), false);
        s.due("start of stage -1", town.ran(0, -1, 0), -1);
        s.due("start of stage 7", town.ran(0, 7, 0), -1);
    }

    private static void minutes(Sentences s) {
        s.says("MINUTES are counted from DAY 0, HOUR 0.");
        DesertTown town = new DesertTown();
        town.racer(10);
        town.hour(0, 0);
        s.due("the first minute", town.ran(0, 0, 0), 0);
        town.camp(1, 1);
        town.set(0, 7);
        s.due("a minute ahead of it", town.of(1, 1), 6 - 7);
        town.set(0, 600);
        s.due("hours ahead of it", town.of(1, 1), 6 - 600);
        town.hour(6, 23);
        town.camp(7, 900);
        // No day ends the count: 900 kilometers at 10 are 90 hours, and the last stage begins at 23 of day 6.
        s.due("the last start", town.ran(0, 6, 0), 10020);
        s.due("the last arrival", town.ran(0, 6, 1), 10020 + 5400);
        town.set(1, 600);
        s.due("the last kitchen", town.of(7, 2), 10020 + 5400 + 600);
    }

    private static void racers(Sentences s) {
        s.says("RACERS 0 .. 9, numbered as they come, have a SPEED (10 .. 120 kilometers an hour),");
        DesertTown town = new DesertTown();
        s.due("racer(9)", town.racer(9), -1);
        s.due("racer(121)", town.racer(121), -1);
        int[] speeds = {10, 120, 11, 119, 60, 60, 100, 25, 50, 75};
        int[] times = {600, 50, 546, 51, 100, 100, 60, 240, 120, 80};
        for (int r = 0; r < 10; r++) {
            s.due("time of " + r + " before it comes", town.time(r, 0), -1);
            s.due("racer(" + speeds[r] + ")", town.racer(speeds[r]), r);
            s.due("time of " + r, town.time(r, 0), times[r]);
        }
        s.due("an 11th one", town.racer(60), -1);
        s.due("time of an 11th one", town.time(10, 0), -1);
        for (int r = 0; r < 10; r++) {
            s.due("time of " + r + " among ten", town.time(r, 6), times[r]);
        }
    }

    private static void breakingDown(Sentences s) {
        s.says("and may BREAK DOWN in a STAGE at a KILOMETER of it (0 .. its length less 1): they do not come to its end,"
            + " nor start again.");
        int[] lengths = {1, 2, 100, 899, 900};
        for (int length : lengths) {
            DesertTown town = new DesertTown();
            town.racer(60);
            town.camp(4, length);
            s.due("at -1 of " + length, town.breaks(0, 3, -1), false);
            s.due("at the length " + length, town.breaks(0, 3, length), false);
            s.due("comes to the end of " + length, town.ran(0, 3, 1), 3 * 1440 + 360 + length);
            s.due("at 0 of " + length, town.breaks(0, 3, 0), true);
            s.due("does not come to the end of " + length, town.ran(0, 3, 1), -1);
            s.due("nowhere", town.breaks(0, -1, 0), true);
            s.due("at the last of " + length, town.breaks(0, 3, length - 1), true);
            s.due("does not come to the end of " + length, town.ran(0, 3, 1), -1);
        }
        for (int i = 0; i < 7; i++) {
            breakingDownIn(s, i);
        }
    }

    private static void breakingDownIn(Sentences s, int broken) {
        DesertTown town = new DesertTown();
        town.racer(60);
        town.racer(30);
        town.breaks(0, broken, 50);
        for (int i = 0; i < 7; i++) {
            String where = " in stage " + i + ", broken down in " + broken;
            s.due("start" + where, town.ran(0, i, 0) >= 0, i <= broken);
            s.due("arrival" + where, town.ran(0, i, 1) >= 0, i < broken);
            s.due("place" + where, town.ran(0, i, 2), i < broken ? 0 : -1);
            s.due("first" + where, town.standing(i, 0), i < broken ? 0 : 1);
            s.due("arrivals" + where, town.of(i + 1, 0), i < broken ? 2 : 1);
        }
    }

    private static void none(Sentences s) {
        s.says("The constants: `NONE = -1`: There is none.");
        s.due("NONE", DesertTown.NONE, -1);
    }
}
