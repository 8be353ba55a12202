/** The document's terms of times, starts, standings and arrivals, sentence by sentence. */
final class TermsOfTheRace {
    private TermsOfTheRace() {
    }

    static void test(Sentences s) {
        s.in("Terms");
        zonesBehindTheEnd(s);
        times(s);
        timesOfManyParts(s);
        startsOfTheFirstStage(s);
        startsByStanding(s);
        startsWithGapsClosed(s);
        standings(s);
        arrivals(s);
    }

    private static void zonesBehindTheEnd(Sentences s) {
        s.says("What of a ZONE is behind its STAGE's end does not count.");
        DesertTown town = new DesertTown();
        town.racer(60);
        s.due("book()", Check.book(town, "zone 0 from 10 to 20 at 30; zone 0 from 50 to 60 at 20;"), 2);
        int[] lengths = {1, 9, 10, 11, 19, 20, 21, 49, 50, 51, 59, 60, 61, 900};
        int[] slower = {0, 0, 0, 1, 9, 10, 10, 10, 10, 12, 28, 30, 30, 30};
        for (int k = 0; k < lengths.length; k++) {
            town.camp(1, lengths[k]);
            s.due("with a length of " + lengths[k], town.time(0, 0), lengths[k] + slower[k]);
        }
        for (int k = lengths.length - 1; k >= 0; k--) {
            town.camp(1, lengths[k]);
            s.due("shortened to " + lengths[k], town.time(0, 0), lengths[k] + slower[k]);
        }
        s.due("the zones are there all the same", town.look(1), 2);
    }

    private static void times(Sentences s) {
        s.says("TIME of a RACER for a STAGE: the minutes, divided upwards, of all its parts together (each kilometer at"
            + " the lesser of SPEED and the ZONE's).");
        timeOf(s, 1, 120, 1);
        timeOf(s, 2, 120, 1);
        timeOf(s, 3, 120, 2);
        timeOf(s, 900, 120, 450);
        timeOf(s, 899, 120, 450);
        timeOf(s, 1, 10, 6);
        timeOf(s, 900, 10, 5400);
        timeOf(s, 100, 59, 102);
        timeOf(s, 100, 60, 100);
        timeOf(s, 100, 61, 99);
        timeOf(s, 119, 119, 60);
        timeOf(s, 118, 119, 60);
        timeOf(s, 120, 119, 61);
        DesertTown town = new DesertTown();
        town.racer(29);
        town.racer(30);
        town.racer(31);
        town.camp(1, 30);
        Check.book(town, "zone 0 from 0 to 30 at 30;");
        s.due("slower than the zone", town.time(0, 0), 63);
        s.due("as the zone", town.time(1, 0), 60);
        s.due("faster than the zone", town.time(2, 0), 60);
        town.breaks(2, 0, 0);
        s.due("who breaks down has a time too", town.time(2, 0), 60);
        s.due("so where they do not start", town.time(2, 1), 194);
    }

    private static void timeOf(Sentences s, int length, int speed, int want) {
        DesertTown town = new DesertTown();
        town.racer(speed);
        town.camp(7, length);
        s.due(length + " kilometers at " + speed, town.time(0, 6), want);
    }

    /** Every rest of a part counts, and none is made by adding. */
    private static void timesOfManyParts(Sentences s) {
        DesertTown town = new DesertTown();
        town.racer(70);
        town.camp(1, 3);
        // 60/70 + 60/35 + 60/42 = 4: each part upwards would be 5, a rest of the adding too.
        Check.book(town, "zone 0 from 0 to 1 at 35; zone 0 from 1 to 2 at 42;");
        s.due("no rest in all", town.time(0, 0), 4);
        // 60/70 + 60/35 + 60/41 = 4.03
        Check.book(town, "zone 0 from 0 to 1 at 35; zone 0 from 1 to 2 at 41;");
        s.due("a rest in all", town.time(0, 0), 5);
        town.camp(1, 5);
        // 60/70 + 60/11 + 60/13 + 60/17 + 60/19 = 17.62: each upwards 21, each downwards 15.
        Check.book(town, "zone 0 from 0 to 1 at 11; zone 0 from 1 to 2 at 13; zone 0 from 3 to 4 at 17;"
            + "zone 0 from 4 to 5 at 19;");
        s.due("five parts", town.time(0, 0), 18);
        town.camp(1, 4);
        // A free kilometer between zones belongs to the same whole: without the last one 14.46.
        s.due("four parts", town.time(0, 0), 15);
    }

    private static void startsOfTheFirstStage(Sentences s) {
        s.says("In STAGE 0 all start, by numbers;");
        DesertTown town = new DesertTown();
        s.due("none start of none", town.ran(0, 0, 0), -1);
        for (int r = 0; r < 10; r++) {
            // The fastest comes last: neither speed nor what becomes of them counts.
            town.racer(60 + r);
            town.breaks(r, 0, r);
        }
        for (int r = 0; r < 10; r++) {
            s.due("start of " + r, town.ran(r, 0, 0), 360 + 2 * r);
        }
        s.due("start of 10", town.ran(10, 0, 0), -1);
    }

    private static void startsByStanding(Sentences s) {
        s.says("in each other one those who came to the end of the one ahead, by STANDING there: the first at the"
            + " STAGE's HOUR, each next one 2 MINUTES later.");
        DesertTown town = new DesertTown();
        for (int r = 0; r < 10; r++) {
            town.racer(60 + r);
        }
        for (int i = 1; i < 7; i++) {
            for (int r = 0; r < 10; r++) {
                s.due("start of " + r + " in stage " + i, town.ran(r, i, 0), 1440 * i + 360 + 2 * (9 - r));
            }
        }
        town.camp(1, 900);
        town.hour(1, 0);
        s.due("the first does not wait for arrivals", town.ran(9, 1, 0), 1440);
        s.due("nor the last", town.ran(0, 1, 0), 1458);
        // All are alike in stage 0 and its standing goes by numbers: the starts of stage 1 do, those of 2 do not.
        Check.book(town, "zone 0 from 0 to 900 at 20;");
        s.due("0 is first in stage 1", town.ran(0, 1, 0), 1440);
        s.due("9 is last in stage 1", town.ran(9, 1, 0), 1458);
        s.due("9 is first in stage 2", town.ran(9, 2, 0), 3240);
        s.due("0 is last in stage 2", town.ran(0, 2, 0), 3258);
    }

    private static void startsWithGapsClosed(Sentences s) {
        DesertTown town = new DesertTown();
        for (int r = 0; r < 3; r++) {
            town.racer(60);
        }
        town.breaks(0, 1, 0);
        s.due("who breaks down in it starts", town.ran(0, 1, 0), 1800);
        s.due("and takes a start", town.ran(1, 1, 0), 1802);
        s.due("starts no more", town.ran(0, 2, 0), -1);
        s.due("and leaves no gap", town.ran(1, 2, 0), 3240);
        s.due("nor behind", town.ran(2, 2, 0), 3242);
        town.breaks(1, 2, 99);
        town.breaks(2, 2, 99);
        for (int r = 0; r < 3; r++) {
            s.due("none starts in stage 3", town.ran(r, 3, 0), -1);
        }
        town.breaks(2, -1, 0);
        s.due("one alone starts in stage 6", town.ran(2, 6, 0), 9000);
    }

    private static void standings(Sentences s) {
        s.says("STANDING at the end of a STAGE: those who came there by the sum of their TIMES, the least first, of like"
            + " ones by numbers.");
        DesertTown town = new DesertTown();
        for (int i = 0; i < 7; i++) {
            s.due("nobody at the end of " + i, town.standing(i, 0), -1);
        }
        for (int r = 0; r < 10; r++) {
            town.racer(r < 5 ? 60 : 119);
        }
        for (int place = 0; place < 10; place++) {
            s.due("like ones by numbers, " + place, town.standing(0, place), (place + 5) % 10);
            s.due("so at the last end, " + place, town.standing(6, place), (place + 5) % 10);
        }
        s.due("an 11th place", town.standing(0, 10), -1);
        town.breaks(5, 3, 0);
        s.due("first ahead of the break", town.standing(2, 0), 5);
        s.due("first behind it", town.standing(3, 0), 6);
        s.due("ninth behind it", town.standing(3, 8), 4);
        s.due("nobody is tenth", town.standing(3, 9), -1);
        likeSumsOfUnlikeSpeeds(s);
    }

    private static void likeSumsOfUnlikeSpeeds(Sentences s) {
        DesertTown town = new DesertTown();
        town.racer(119);
        town.racer(120);
        town.camp(1, 1);
        town.camp(2, 99);
        // A minute each for 1 kilometer; 50 each for 99 (49.9 and 49.5); 51 and 50 for 100.
        s.due("like sums at the end of 0", town.standing(0, 0), 0);
        s.due("like sums at the end of 1", town.standing(1, 0), 0);
        s.due("sum of 0", town.ran(0, 1, 3), 51);
        s.due("sum of 1", town.ran(1, 1, 3), 51);
        s.due("one minute less at the end of 2", town.standing(2, 0), 1);
        s.due("sum of 0 then", town.ran(0, 2, 3), 102);
        s.due("sum of 1 then", town.ran(1, 2, 3), 101);
        // All go alike in the last stage: the sum decides, not the stage's own time.
        Check.book(town, "zone 6 from 0 to 900 at 10;");
        s.due("like times in stage 6", town.time(0, 6) - town.time(1, 6), 0);
        s.due("the sum stands", town.standing(6, 0), 1);
    }

    private static void arrivals(Sentences s) {
        s.says("One ARRIVES as many MINUTES behind the start as TIME.");
        DesertTown town = new DesertTown();
        town.racer(10);
        town.racer(120);
        town.racer(47);
        for (int i = 0; i < 7; i++) {
            for (int r = 0; r < 3; r++) {
                int minutes = new int[] {600, 50, 128}[r];
                int start = i == 0 ? 360 + 2 * r : 1440 * i + 360 + 2 * new int[] {2, 0, 1}[r];
                s.due("arrival of " + r + " in " + i, town.ran(r, i, 1), start + minutes);
            }
        }
        town.camp(1, 1);
        town.hour(0, 0);
        s.due("the earliest of all", town.ran(1, 0, 1), 2 + 1);
        town.camp(1, 900);
        s.due("behind the start of the next stage", town.ran(0, 0, 1), 5400);
    }
}
