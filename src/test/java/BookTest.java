/** Promises 7 to 10: the tape, the road book and its faults. */
public final class BookTest {
    private static final Check CHECK = new Check("BookTest");

    public static void main(String[] args) {
        tape();
        bytesHighestFirst();
        ends();
        goodBooks();
        faultsOfForm();
        faultsOfNumbers();
        fifthZone();
        faultyBookLeavesTheOldOne();
        faultOfTheLatest();
        CHECK.finish();
    }

    private static void tape() {
        DesertTown town = new DesertTown();
        for (int n = 20; n <= 600; n += 20) {
            CHECK.due("feed to " + n, blanks(town), n);
        }
        CHECK.due("feed beyond 600", blanks(town), -1);
        CHECK.due("end(600)", town.end(600), true);
        CHECK.due("end(601)", town.end(601), false);
        CHECK.due("end(581)", town.end(581), true);
        CHECK.due("feed to 601", blanks(town), -1);
        CHECK.due("nothing came", town.end(582), false);
        CHECK.due("end(580)", town.end(580), true);
        CHECK.due("feed to 600", blanks(town), 600);
        CHECK.due("book of 600 blanks", town.book(), 0);
        CHECK.due("empty behind book", town.end(1), false);
        CHECK.due("feed behind book", blanks(town), 20);
    }

    private static int blanks(DesertTown town) {
        int four = 0x20200A20;
        return town.feed(four, four, four, four, four);
    }

    private static void bytesHighestFirst() {
        DesertTown town = new DesertTown();
        town.feed(0x7A6F6E65, 0x3066726F, 0x6D30746F, 0x39617431, 0x303B2020);
        CHECK.due("zone0from0to9at10;", town.book(), 1);
        town.feed(-1, 0, 0, 0, 0);
        town.book();
        CHECK.due("a byte of 255", town.fault(0), 1);
        CHECK.due("its place", town.fault(1), 0);
    }

    private static void ends() {
        DesertTown town = new DesertTown();
        blanks(town);
        CHECK.due("end(-1)", town.end(-1), false);
        CHECK.due("end(21)", town.end(21), false);
        CHECK.due("end(min)", town.end(Integer.MIN_VALUE), false);
        CHECK.due("end(max)", town.end(Integer.MAX_VALUE), false);
        CHECK.due("end(20)", town.end(20), true);
        CHECK.due("end(7)", town.end(7), true);
        CHECK.due("end(8)", town.end(8), false);
        CHECK.due("feed behind 7", blanks(town), 27);
    }

    private static void goodBooks() {
        zones("", 0);
        zones(" \n ", 0);
        zones("zone 6 from 899 to 900 at 99;", 1);
        zones("zone 0 from 000 to 001 at 010 ;", 1);
        zones("zone\n0from 0to 1 at\n10;zone0from1to2at99;", 2);
        zones("zone 0 from 5 to 6 at 10; zone 1 from 0 to 6 at 10; zone 0 from 6 to 7 at 10;", 3);
        StringBuilder full = new StringBuilder();
        for (int k = 0; k < 28; k++) {
            full.append("zone").append(k % 7).append("from").append(k / 7).append("to").append(k / 7 + 1).append("at10;");
        }
        zones(full.toString(), 28);
    }

    private static void zones(String text, int want) {
        DesertTown town = new DesertTown();
        CHECK.due("book of '" + text + "'", Check.book(town, text), want);
        CHECK.due("fault(0) of '" + text + "'", town.fault(0), 0);
        CHECK.due("fault(1) of '" + text + "'", town.fault(1), -1);
        CHECK.due("fault(2)", town.fault(2), -1);
        CHECK.due("fault(-1)", town.fault(-1), -1);
        CHECK.due("look(1) of '" + text + "'", town.look(1), want);
    }

    private static void faultsOfForm() {
        String whole = "zone 0 from 0 to 9 at 10;";
        for (int n = 1; n < whole.length(); n++) {
            boolean cutInWord = n < 4 || (n > 7 && n < 11) || n == 15 || n == 20;
            if (!cutInWord && n != 23) {
                fault(whole.substring(0, n), 1, n);
            }
        }
        fault("zone 0 from 0 to 9 at 1", 2, 22);
        fault("zone 0 from 0 to 9 at 10  \n", 1, 27);
        fault("zon 0", 1, 0);
        fault("zones 0", 1, 0);
        fault("  Zone 0", 1, 2);
        fault("zoneA 0", 1, 0);
        fault("zonefrom", 1, 0);
        fault("from 0", 1, 0);
        fault(";", 1, 0);
        fault("0", 1, 0);
        fault("zone zone", 1, 5);
        fault("zone ;", 1, 5);
        fault("zone 0 to 0", 1, 7);
        fault("zone 0 0", 1, 7);
        fault("zone 0 from -1", 1, 12);
        fault("zone 0 from 0000 to 9 at 10;", 1, 12);
        fault("zone 0000", 1, 5);
        fault("zone 1234", 1, 5);
        fault("zone 0\tfrom", 1, 6);
        fault("zone 0\rfrom", 1, 6);
        fault("zone 0 from 1 to 2 at 10 zone", 1, 25);
        fault("zone 0 from 1 to 2 at 10;;", 1, 25);
        fault("zone 0 from 1 to 2 at 10,", 1, 24);
        fault("zone 0 from 1 to 2 at 1 0;", 2, 22);
    }

    private static void faultsOfNumbers() {
        fault("zone 7 from 0 to 9 at 10;", 2, 5);
        fault("zone 7", 2, 5);
        fault("zone 999 x", 2, 5);
        fault("zone 0 from 900 to 901 at 10;", 2, 12);
        fault("zone 0 from 899 to 901 at 10;", 2, 19);
        fault("zone 0 from 5 to 5 at 10;", 2, 17);
        fault("zone 0 from 5 to 4 at 10;", 2, 17);
        fault("zone 0 from 5 to 6 at 9;", 2, 22);
        fault("zone 0 from 5 to 6 at 100;", 2, 22);
        fault("zone 0 from 5 to 6 at 0", 2, 22);
        fault("zone 0 from 5 to 9 at 10; zone 0 from 8 to 9 at 10;", 2, 38);
        fault("zone 0 from 5 to 9 at 10; zone 1 from 0 to 1 at 10; zone 0 from 8 to 9 at 10;", 2, 64);
    }

    private static void fifthZone() {
        StringBuilder four = new StringBuilder();
        for (int k = 0; k < 4; k++) {
            four.append("zone3from").append(k).append("to").append(k + 1).append("at10;");
        }
        fault(four + "zone3from5to6at10;", 3, 76);
        fault(four + "zone3from0to6at10;", 3, 76);
        fault(four + "zone3", 3, 76);
        fault(four + "zone7", 2, 76);
        fault(four + "zone", 1, 76);
        zones(four + "zone4from0to6at10;", 5);
    }

    private static void fault(String text, int kind, int place) {
        DesertTown town = new DesertTown();
        CHECK.due("book of '" + text + "'", Check.book(town, text), -1);
        CHECK.due("fault(0) of '" + text + "'", town.fault(0), kind);
        CHECK.due("fault(1) of '" + text + "'", town.fault(1), place);
        CHECK.due("fault(2)", town.fault(2), -1);
        CHECK.due("the tape is empty", town.end(1), false);
    }

    private static void faultyBookLeavesTheOldOne() {
        DesertTown town = new DesertTown();
        town.racer(60);
        Check.book(town, "zone 0 from 0 to 50 at 30;");
        CHECK.due("time by the book", town.time(0, 0), 150);
        Check.book(town, "zone 0 from 0 to 100 at 10; zone 1 from 0 to 1 at 10; zone");
        CHECK.due("look(1) stays", town.look(1), 1);
        CHECK.due("time stays", town.time(0, 0), 150);
        CHECK.due("an empty book", town.book(), 0);
        CHECK.due("time without zones", town.time(0, 0), 100);
    }

    private static void faultOfTheLatest() {
        DesertTown town = new DesertTown();
        Check.book(town, "zone 0 from 0 to 50 at 3");
        CHECK.due("fault(0)", town.fault(0), 2);
        Check.feed(town, "zone");
        CHECK.due("fault(0) until the next book", town.fault(0), 2);
        CHECK.due("fault(1) until the next book", town.fault(1), 23);
        town.end(0);
        town.book();
        CHECK.due("fault(0) of a good one", town.fault(0), 0);
        CHECK.due("fault(1) of a good one", town.fault(1), -1);
    }
}
