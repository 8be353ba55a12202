/** The document's terms of kitchens, sets, water and sweepers, sentence by sentence. */
final class TermsOfTheTown {
    private TermsOfTheTown() {
    }

    static void test(Sentences s) {
        s.in("Terms");
        kitchens(s);
        leadAndStay(s);
        pace(s);
        latestComing(s);
        fewestSets(s);
        leastSet(s);
        leastSetThatLeavesAsFew(s);
        people(s);
        water(s);
        sweepers(s);
        sweepersOnTheWay(s);
    }

    private static void kitchens(Sentences s) {
        s.says("A CAMP (1 .. 7) at which some ARRIVE needs a KITCHEN from the first ARRIVAL");
        DesertTown town = new DesertTown();
        town.racer(99);
        town.racer(100);
        town.racer(50);
        // In stage 0 the first in standing (1: 60 minutes from 362 on) arrives behind the second (0: 61 from 360 on).
        s.due("first of camp 1", town.of(1, 1), 421 - 60);
        s.due("last of camp 1", town.of(1, 2), 484 + 120);
        for (int c = 2; c <= 7; c++) {
            int begin = 1440 * (c - 1) + 360;
            s.due("first of camp " + c, town.of(c, 1), begin + 60 - 60);
            s.due("last of camp " + c, town.of(c, 2), begin + 4 + 120 + 120);
        }
        s.due("camp 0", town.of(0, 1), -1);
        s.due("camp 8", town.of(8, 1), -1);
        town.breaks(2, 0, 1);
        s.due("who does not come is not the last; nor is the last in standing", town.of(1, 2), 422 + 120);
        s.due("nor the first in standing the first", town.of(1, 1), 421 - 60);
        town.breaks(0, 0, 1);
        s.due("who does not come is not the first", town.of(1, 1), 422 - 60);
        town.breaks(1, 0, 1);
        s.due("none comes", town.of(1, 1), -1);
        s.due("so no kitchen", town.sets(), 0);
    }

    private static void leadAndStay(Sentences s) {
        s.says("less LEAD (0 .. 600, 60 at first) to the last one and STAY (0 .. 600, 120 at first).");
        DesertTown town = new DesertTown();
        town.racer(60);
        s.due("lead at first", town.of(1, 1), 460 - 60);
        s.due("stay at first", town.of(1, 2), 460 + 120);
        for (int what = 0; what < 2; what++) {
            int sign = what == 0 ? -1 : 1;
            s.due("least", town.set(what, 0), true);
            s.due("below the least", town.set(what, -1), false);
            s.due("with the least", town.of(1, what + 1), 460);
            s.due("most", town.set(what, 600), true);
            s.due("above the most", town.set(what, 601), false);
            s.due("with the most", town.of(1, what + 1), 460 + sign * 600);
        }
    }

    /** One racer at 60; camp 1 closes at 960 and its length, camp 2 opens at 1200 and its length: two camps in all. */
    private static DesertTown twoCamps(int first, int second) {
        DesertTown town = new DesertTown();
        town.racer(60);
        town.breaks(0, 2, 0);
        town.set(0, 600);
        town.set(1, 600);
        town.camp(1, first);
        town.camp(2, second);
        return town;
    }

    private static void pace(Sentences s) {
        s.says("A SET of a KITCHEN goes from CAMP to CAMP with so many kilometers an hour (PACE, 10 .. 120; 60 at first),"
            + " minutes divided upwards;");
        s.due("60 at first: 170 in 170 minutes", twoCamps(240, 170).sets(), 1);
        s.due("a minute less", twoCamps(241, 170).sets(), 2);
        DesertTown town = twoCamps(290, 10);
        s.due("the least", town.set(2, 10), true);
        s.due("below the least", town.set(2, 9), false);
        s.due("10 kilometers in -40 minutes", town.sets(), 2);
        town.camp(1, 190);
        s.due("in 60 minutes", town.sets(), 1);
        town.camp(1, 191);
        s.due("in 59 minutes", town.sets(), 2);
        s.due("the most", town.set(2, 120), true);
        s.due("above the most", town.set(2, 121), false);
        town.camp(1, 245);
        s.due("10 kilometers at 120 in 5 minutes", town.sets(), 1);
        town.camp(1, 246);
        s.due("in 4 minutes", town.sets(), 2);
        paceUpwards(s);
    }

    private static void paceUpwards(Sentences s) {
        DesertTown town = twoCamps(240, 1);
        town.set(2, 120);
        s.due("half a minute is one", town.sets(), 1);
        town.camp(1, 241);
        s.due("half a minute is not none", town.sets(), 2);
        town = twoCamps(109, 100);
        town.set(2, 26);
        // 6000 / 26 = 230.8
        s.due("231 minutes are there", town.sets(), 1);
        town.camp(1, 110);
        s.due("230 are there", town.sets(), 2);
        // The whole way is divided once: 1 and 1 kilometers at 120 are one minute from camp 1 to camp 3.
        town = new DesertTown();
        town.racer(60);
        town.set(2, 120);
        town.set(0, 600);
        town.set(1, 600);
        town.camp(2, 1);
        town.camp(3, 1);
        town.hour(2, 0);
        town.breaks(0, 3, 0);
        // Camp 3 opens at 2880 + 1 - 600 = 2281; camp 1 of length L closes at 960 + L, camp 2 at 1800 + 1 + 600.
        town.hour(0, 23);
        town.camp(1, 300);
        // Camp 1 closes at 1380 + 300 + 600 = 2280 then.
        s.due("two camps on in one minute", town.of(3, 3), 0);
        town.camp(1, 301);
        s.due("in none", town.of(3, 3), 2);
    }

    private static void latestComing(Sentences s) {
        s.says("it can do CAMP b behind CAMP a if it comes there when b's time begins at the latest.");
        // 340 less the first length are there, and 100 are needed.
        s.due("sooner", twoCamps(239, 100).of(2, 3), 0);
        s.due("just then", twoCamps(240, 100).of(2, 3), 0);
        s.due("a minute later", twoCamps(241, 100).of(2, 3), 1);
        // It leaves when the time of camp a ends, not when it begins or the last one comes.
        DesertTown town = twoCamps(241, 100);
        town.set(1, 599);
        s.due("with a minute less of stay", town.of(2, 3), 0);
        town.set(1, 600);
        town.set(0, 599);
        s.due("with a minute less of lead", town.of(2, 3), 0);
        town.set(0, 600);
        s.due("and back", town.of(2, 3), 1);
        // Camp 1 has its time behind that of camp 2 here: no set goes back along the row.
        town = new DesertTown();
        town.racer(10);
        town.camp(1, 900);
        town.camp(2, 1);
        town.breaks(0, 2, 0);
        s.due("camp 1 opens", town.of(1, 1), 5700);
        s.due("camp 2 closes", town.of(2, 2), 1926);
        s.due("each has its own", town.sets(), 2);
    }

    private static void fewestSets(Sentences s) {
        s.says("The fewest SETS that do all CAMPS;");
        for (int camps = 0; camps <= 7; camps++) {
            DesertTown near = new DesertTown();
            DesertTown far = new DesertTown();
            near.racer(60);
            far.racer(60);
            far.set(2, 10);
            for (int c = 1; c <= 7; c++) {
                far.camp(c, 900);
            }
            if (camps < 7) {
                near.breaks(0, camps, 0);
                far.breaks(0, camps, 0);
            }
            s.due("one for " + camps + " near camps", near.sets(), camps == 0 ? 0 : 1);
            s.due("one for each of " + camps + " far ones", far.sets(), camps);
            for (int c = 1; c <= 7; c++) {
                s.due("near camp " + c + " of " + camps, near.of(c, 3), c <= camps ? 0 : -1);
                s.due("far camp " + c + " of " + camps, far.of(c, 3), c <= camps ? c - 1 : -1);
            }
        }
    }

    private static void leastSet(Sentences s) {
        s.says("CAMP 1, 2, .. each by the least SET with which it can be done still (with as few SETS).");
        DesertTown town = new DesertTown();
        town.racer(60);
        town.set(0, 600);
        town.set(1, 600);
        town.set(2, 10);
        // 240 minutes between neighbours do not do 600; 1680 to the next but one do 1200.
        for (int c = 1; c <= 7; c++) {
            s.due("in turn, camp " + c, town.of(c, 3), (c + 1) % 2);
        }
        s.due("two in turn", town.sets(), 2);
        town.camp(4, 20);
        s.due("near to camp 3 set 0 can do camp 4, and does", town.of(4, 3), 0);
        s.due("set 1 does the next", town.of(5, 3), 1);
        s.due("still two", town.sets(), 2);
    }

    /** By kilometers 462, 301, 900, 1 camp 4 can be done behind camp 1 alone, and camp 2 not behind camp 1. */
    private static void leastSetThatLeavesAsFew(Sentences s) {
        DesertTown town = new DesertTown();
        town.racer(10);
        town.camp(1, 462);
        town.camp(2, 301);
        town.camp(3, 900);
        town.camp(4, 1);
        town.breaks(0, 4, 0);
        int[] want = {0, 1, 1, 0};
        for (int c = 1; c <= 4; c++) {
            s.due("camp " + c + " where set 0 must be free for camp 4", town.of(c, 3), want[c - 1]);
        }
        s.due("with two sets", town.sets(), 2);
        town.camp(2, 300);
        int[] least = {0, 1, 0, 1};
        for (int c = 1; c <= 4; c++) {
            s.due("camp " + c + " where set 1 can do camp 4", town.of(c, 3), least[c - 1]);
        }
        s.due("with two sets too", town.sets(), 2);
    }

    private static void people(Sentences s) {
        s.says("PEOPLE of a CAMP: CREW (0 .. 5000, 100 at first) and those who ARRIVE there;");
        DesertTown town = new DesertTown();
        s.due("crew at first", town.of(1, 4), 100);
        for (int r = 0; r < 10; r++) {
            town.racer(60);
            s.due("with so many racers", town.of(7, 4), 101 + r);
        }
        town.breaks(9, 3, 0);
        s.due("who comes to camp 3", town.of(3, 4), 110);
        s.due("and not to camp 4", town.of(4, 4), 109);
        s.due("no crew", town.set(3, 0), true);
        s.due("less than none", town.set(3, -1), false);
        s.due("racers alone", town.of(1, 4), 10);
        s.due("the greatest crew", town.set(3, 5000), true);
        s.due("a greater one", town.set(3, 5001), false);
        s.due("all together", town.of(1, 4), 5010);
        s.due("of camp 0", town.of(0, 4), -1);
        s.due("of camp 8", town.of(8, 4), -1);
    }

    private static void water(Sentences s) {
        s.says("WATER: so many litres a head (0 .. 50, 10 at first) by TANKS of 1000, upwards.");
        DesertTown town = new DesertTown();
        s.due("100 people, 10 litres at first", town.of(1, 5), 1);
        s.due("the most litres", town.set(4, 50), true);
        s.due("more", town.set(4, 51), false);
        int[] crews = {0, 1, 19, 20, 21, 40, 41, 4999, 5000};
        int[] tanks = {0, 1, 1, 1, 2, 2, 3, 250, 250};
        for (int k = 0; k < crews.length; k++) {
            town.set(3, crews[k]);
            s.due("tanks for 50 litres by " + crews[k], town.of(7, 5), tanks[k]);
        }
        town.racer(60);
        s.due("5001 people", town.of(7, 5), 251);
        town.breaks(0, 6, 0);
        s.due("who does not arrive does not drink", town.of(7, 5), 250);
        s.due("but there ahead", town.of(6, 5), 251);
        s.due("one litre", town.set(4, 1), true);
        s.due("5000 by 1", town.of(7, 5), 5);
        s.due("5001 by 1", town.of(6, 5), 6);
        s.due("no litres", town.set(4, 0), true);
        s.due("less than none", town.set(4, -1), false);
        s.due("no tanks", town.of(6, 5), 0);
    }

    private static void sweepers(Sentences s) {
        s.says("SWEEPERS of a STAGE: for those who BREAK DOWN in it, 4 by each;");
        int[] want = {0, 1, 1, 1, 1, 2, 2, 2, 2, 3, 3};
        for (int i = 0; i < 7; i++) {
            DesertTown town = new DesertTown();
            for (int r = 0; r < 10; r++) {
                town.racer(60);
            }
            for (int n = 0; n <= 10; n++) {
                s.due("sweepers of " + i + " for " + n, town.sweep(i, 0), want[n]);
                s.due("not those of the stage behind it", town.sweep((i + 1) % 7, 0), 0);
                town.breaks(n, i, n);
            }
        }
        DesertTown town = new DesertTown();
        town.racer(60);
        town.hour(0, 0);
        town.breaks(0, 0, 0);
        s.due("who starts at minute 0", town.sweep(0, 0), 1);
        s.due("is taken", town.sweep(0, 1), 1);
    }

    private static void sweepersOnTheWay(Sentences s) {
        s.says("they start 60 MINUTES behind the last start, go 30 kilometers an hour, stand 15 MINUTES for each whom they"
            + " take (all go together), and come to the STAGE's end.");
        DesertTown town = new DesertTown();
        for (int r = 0; r < 10; r++) {
            town.racer(60);
        }
        for (int n = 1; n <= 10; n++) {
            town.breaks(10 - n, 1, 0);
            // All ten start in stage 1, the last at 1818.
            s.due("for " + n, town.sweep(1, 2), 1818 + 60 + 200 + 15 * n);
        }
        town.breaks(3, 2, 99);
        s.due("where one starts, to the end though they break down near it", town.sweep(2, 2), 3240 + 60 + 200 + 15);
        town.camp(3, 900);
        s.due("900 kilometers", town.sweep(2, 2), 3240 + 60 + 1800 + 15);
        town.breaks(3, 2, 0);
        s.due("at whatever kilometer", town.sweep(2, 2), 3240 + 60 + 1800 + 15);
        town.camp(3, 1);
        s.due("1 kilometer", town.sweep(2, 2), 3240 + 60 + 2 + 15);
        town.hour(2, 23);
        s.due("by the hour of the stage", town.sweep(2, 2), 2880 + 1380 + 60 + 2 + 15);
        town.racer(60);
        s.due("a refused racer does not start", town.sweep(2, 2), 2880 + 1380 + 60 + 2 + 15);
    }
}
