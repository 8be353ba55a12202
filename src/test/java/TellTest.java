/** Promises 1 to 6 and 11: what is told to a town, and looked at. */
public final class TellTest {
    private static final Check CHECK = new Check("TellTest");

    public static void main(String[] args) {
        newObject();
        camps();
        shorterStageEndsBreaks();
        hours();
        racers();
        breaks();
        settings();
        looks();
        CHECK.finish();
    }

    private static void newObject() {
        DesertTown town = new DesertTown();
        CHECK.due("look(0) of a new one", town.look(0), 0);
        CHECK.due("look(1) of a new one", town.look(1), 0);
        CHECK.due("look(2) of a new one", town.look(2), 700);
        CHECK.due("look(3) of a new one", town.look(3), 60);
        CHECK.due("look(4) of a new one", town.look(4), 120);
        CHECK.due("look(5) of a new one", town.look(5), 60);
        CHECK.due("look(6) of a new one", town.look(6), 100);
        CHECK.due("look(7) of a new one", town.look(7), 10);
        CHECK.due("fault(0) of a new one", town.fault(0), 0);
        CHECK.due("fault(1) of a new one", town.fault(1), -1);
        CHECK.due("sets() of a new one", town.sets(), 0);
        CHECK.due("standing of a new one", town.standing(0, 0), -1);
        CHECK.due("time of a new one", town.time(0, 0), -1);
        CHECK.due("sweep(0, 0) of a new one", town.sweep(0, 0), 0);
        CHECK.due("sweep(0, 1) of a new one", town.sweep(0, 1), 0);
        CHECK.due("sweep(0, 2) of a new one", town.sweep(0, 2), -1);
        CHECK.due("end(0) of a new one", town.end(0), true);
        CHECK.due("end(1) of a new one", town.end(1), false);
        town.racer(60);
        for (int i = 0; i < 7; i++) {
            CHECK.due("first start of stage " + i, town.ran(0, i, 0), i * 1440 + 360);
        }
    }

    private static void camps() {
        DesertTown town = new DesertTown();
        CHECK.due("camp(0, 1)", town.camp(0, 1), false);
        CHECK.due("camp(8, 1)", town.camp(8, 1), false);
        CHECK.due("camp(-1, 1)", town.camp(-1, 1), false);
        CHECK.due("camp(min, 1)", town.camp(Integer.MIN_VALUE, 1), false);
        CHECK.due("camp(max, 1)", town.camp(Integer.MAX_VALUE, 1), false);
        CHECK.due("camp(1, 0)", town.camp(1, 0), false);
        CHECK.due("camp(1, 901)", town.camp(1, 901), false);
        CHECK.due("camp(1, -5)", town.camp(1, -5), false);
        CHECK.due("look(2) unchanged", town.look(2), 700);
        CHECK.due("camp(1, 1)", town.camp(1, 1), true);
        CHECK.due("camp(7, 900)", town.camp(7, 900), true);
        CHECK.due("look(2)", town.look(2), 1401);
        town.racer(60);
        CHECK.due("time of stage 0", town.time(0, 0), 1);
        CHECK.due("time of stage 6", town.time(0, 6), 900);
    }

    private static void shorterStageEndsBreaks() {
        DesertTown town = new DesertTown();
        for (int r = 0; r < 4; r++) {
            town.racer(60);
        }
        town.breaks(0, 2, 50);
        town.breaks(1, 2, 40);
        town.breaks(2, 2, 39);
        town.breaks(3, 3, 50);
        CHECK.due("all break", town.sweep(2, 1), 7);
        CHECK.due("camp(3, 0)", town.camp(3, 0), false);
        CHECK.due("a refused length ends no break", town.sweep(2, 1), 7);
        CHECK.due("camp(2, 1)", town.camp(2, 1), true);
        CHECK.due("another stage's length ends no break", town.sweep(2, 1), 7);
        CHECK.due("camp(3, 40)", town.camp(3, 40), true);
        CHECK.due("only kilometers of the stage stay", town.sweep(2, 1), 4);
        CHECK.due("camp(3, 900)", town.camp(3, 900), true);
        CHECK.due("they do not come again", town.sweep(2, 1), 4);
        CHECK.due("stage 3 keeps its own", town.sweep(3, 1), 8);
    }

    private static void hours() {
        DesertTown town = new DesertTown();
        town.racer(60);
        CHECK.due("hour(0, 24)", town.hour(0, 24), false);
        CHECK.due("hour(0, -1)", town.hour(0, -1), false);
        CHECK.due("hour(7, 0)", town.hour(7, 0), false);
        CHECK.due("hour(-1, 0)", town.hour(-1, 0), false);
        CHECK.due("start unchanged", town.ran(0, 0, 0), 360);
        CHECK.due("hour(0, 0)", town.hour(0, 0), true);
        CHECK.due("hour(6, 23)", town.hour(6, 23), true);
        CHECK.due("start of stage 0", town.ran(0, 0, 0), 0);
        CHECK.due("start of stage 1", town.ran(0, 1, 0), 1800);
        CHECK.due("start of stage 6", town.ran(0, 6, 0), 6 * 1440 + 23 * 60);
    }

    private static void racers() {
        DesertTown town = new DesertTown();
        CHECK.due("racer(9)", town.racer(9), -1);
        CHECK.due("racer(121)", town.racer(121), -1);
        CHECK.due("racer(0)", town.racer(0), -1);
        CHECK.due("racer(min)", town.racer(Integer.MIN_VALUE), -1);
        CHECK.due("no racers", town.look(0), 0);
        CHECK.due("racer(10)", town.racer(10), 0);
        CHECK.due("racer(120)", town.racer(120), 1);
        for (int r = 2; r < 10; r++) {
            CHECK.due("racer(60)", town.racer(60), r);
        }
        CHECK.due("the 11th", town.racer(60), -1);
        CHECK.due("look(0)", town.look(0), 10);
        CHECK.due("time(0, 0)", town.time(0, 0), 600);
        CHECK.due("time(1, 0)", town.time(1, 0), 50);
        CHECK.due("time(9, 0)", town.time(9, 0), 100);
        CHECK.due("time(10, 0)", town.time(10, 0), -1);
    }

    private static void breaks() {
        DesertTown town = new DesertTown();
        CHECK.due("breaks without racers", town.breaks(0, 0, 0), false);
        town.racer(60);
        CHECK.due("breaks(1, 0, 0)", town.breaks(1, 0, 0), false);
        CHECK.due("breaks(-1, 0, 0)", town.breaks(-1, 0, 0), false);
        CHECK.due("breaks(-1, -1, 0)", town.breaks(-1, -1, 0), false);
        CHECK.due("breaks(0, 7, 0)", town.breaks(0, 7, 0), false);
        CHECK.due("breaks(0, -2, 0)", town.breaks(0, -2, 0), false);
        CHECK.due("breaks(0, 0, -1)", town.breaks(0, 0, -1), false);
        CHECK.due("breaks(0, 0, 100)", town.breaks(0, 0, 100), false);
        CHECK.due("comes to the last end", town.standing(6, 0), 0);
        CHECK.due("breaks(0, 0, 99)", town.breaks(0, 0, 99), true);
        CHECK.due("starts", town.ran(0, 0, 0), 360);
        CHECK.due("does not come", town.ran(0, 0, 1), -1);
        CHECK.due("does not start again", town.ran(0, 1, 0), -1);
        CHECK.due("a refused one keeps what was told", town.breaks(0, 3, 100), false);
        CHECK.due("does not come still", town.ran(0, 0, 1), -1);
        CHECK.due("breaks(0, 6, 0)", town.breaks(0, 6, 0), true);
        CHECK.due("in place of what was told", town.ran(0, 5, 1), 5 * 1440 + 460);
        CHECK.due("does not come to the last end", town.ran(0, 6, 1), -1);
        CHECK.due("breaks(0, -1, -9)", town.breaks(0, -1, -9), true);
        CHECK.due("nowhere", town.ran(0, 6, 1), 6 * 1440 + 460);
    }

    private static void settings() {
        int[] least = {0, 0, 10, 0, 0};
        int[] most = {600, 600, 120, 5000, 50};
        DesertTown town = new DesertTown();
        for (int what = 0; what < 5; what++) {
            int before = town.look(what + 3);
            CHECK.due("set below, " + what, town.set(what, least[what] - 1), false);
            CHECK.due("set above, " + what, town.set(what, most[what] + 1), false);
            CHECK.due("nothing is done, " + what, town.look(what + 3), before);
            CHECK.due("set least, " + what, town.set(what, least[what]), true);
            CHECK.due("least, " + what, town.look(what + 3), least[what]);
            CHECK.due("set most, " + what, town.set(what, most[what]), true);
            CHECK.due("most, " + what, town.look(what + 3), most[what]);
        }
        CHECK.due("set(5, 10)", town.set(5, 10), false);
        CHECK.due("set(-1, 10)", town.set(-1, 10), false);
        CHECK.due("set(min, 10)", town.set(Integer.MIN_VALUE, 10), false);
    }

    private static void looks() {
        DesertTown town = new DesertTown();
        town.racer(60);
        Check.book(town, "zone 0 from 0 to 1 at 10; zone 6 from 899 to 900 at 99;");
        CHECK.due("look(0)", town.look(0), 1);
        CHECK.due("look(1)", town.look(1), 2);
        CHECK.due("look(8)", town.look(8), -1);
        CHECK.due("look(-1)", town.look(-1), -1);
        CHECK.due("look(max)", town.look(Integer.MAX_VALUE), -1);
        CHECK.due("look(min)", town.look(Integer.MIN_VALUE), -1);
    }
}
