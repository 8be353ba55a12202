/** Promises 7 to 10, sentence by sentence: the tape, the road book and its faults. */
final class PromisesOfTheBook {
    private static final int MIN = Sentences.MIN;
    private static final int MAX = Sentences.MAX;
    private static final String ZONE = "zone 0 from 0 to 50 at 30;";

    private PromisesOfTheBook() {
    }

    static void test(Sentences s) {
        feeding(s);
        bytesInOrder(s);
        feedingTooMuch(s);
        ending(s);
        endingWrongly(s);
        booking(s);
        bookingAFault(s);
        faults(s);
    }

    private static int blanks(DesertTown town) {
        int four = 0x20202020;
        return town.feed(four, four, four, four, four);
    }

    private static void feeding(Sentences s) {
        s.in("Promise 7");
        s.says("Twenty bytes come behind the TAPE, of each number the highest first: how many it has.");
        DesertTown town = new DesertTown();
        for (int n = 20; n <= 600; n += 20) {
            s.due("up to " + n, blanks(town), n);
        }
        s.due("600 blanks are a book", town.book(), 0);
        s.due("an empty tape again", blanks(town), 20);
        town.end(7);
        s.due("behind 7", blanks(town), 27);
        town.end(0);
        s.due("behind none", blanks(town), 20);
        // What is fed comes behind what was left, in place of what was cut off.
        town.end(0);
        Check.feed(town, "zone 0 from 0 to 50 at 99;");
        town.end(23);
        town.feed(0x303B2020, 0x20202020, 0x20202020, 0x20202020, 0x20202020);
        s.due("'zone 0 from 0 to 50 at ' cut and '0;' fed", town.book(), -1);
        s.due("a speed that is none", town.fault(0), 2);
        s.due("its place", town.fault(1), 23);
    }

    /** "zone0from0to9at10;" has each of its bytes in its place alone. */
    private static void bytesInOrder(Sentences s) {
        int[] numbers = {0x7A6F6E65, 0x3066726F, 0x6D30746F, 0x39617431, 0x303B0A20};
        int[] tokenAt = {0, 0, 0, 0, 4, 5, 5, 5, 5, 9, 10, 10, 12, 13, 13, 15, 15, 17};
        DesertTown town = new DesertTown();
        town.feed(numbers[0], numbers[1], numbers[2], numbers[3], numbers[4]);
        s.due("a zone in twenty bytes", town.book(), 1);
        for (int place = 0; place < 18; place++) {
            int[] n = numbers.clone();
            int shift = 24 - 8 * (place % 4);
            n[place / 4] = n[place / 4] & ~(255 << shift) | '?' << shift;
            town.feed(n[0], n[1], n[2], n[3], n[4]);
            s.due("with a byte that can't stand there", town.book(), -1);
            // "at1?" has the speed 1, which is none; all else can't stand there.
            s.due("its kind", town.fault(0), place == 16 ? 2 : 1);
            s.due("its place, the token's that it cuts short or its own", town.fault(1), tokenAt[place]);
        }
        // The highest byte of a number below 0 is a byte above 127, and no letter.
        town.feed(-1, -1, -1, -1, -1);
        s.due("bytes of 255", town.book(), -1);
        s.due("their fault", town.fault(0), 1);
        s.due("its place", town.fault(1), 0);
        town.feed(0x20A02020, 0, 0, 0, 0);
        town.end(4);
        s.due("160 is no blank", town.book(), -1);
        s.due("its place", town.fault(1), 1);
        town.feed(0xFA6F6E65, 0x3066726F, 0x6D30746F, 0x39617431, 0x303B0A20);
        s.due("250 is no z", town.book(), -1);
        s.due("its place", town.fault(1), 0);
    }

    private static void feedingTooMuch(Sentences s) {
        s.says("NONE, and nothing comes, if there would be more than 600.");
        int[] lengths = {581, 582, 590, 599, 600};
        for (int length : lengths) {
            s.refused("feed behind " + length, town -> Check.feed(town, " ".repeat(length)), PromisesOfTheBook::blanks, -1);
            String text = " ".repeat(length - ZONE.length()) + ZONE;
            s.refused("feed behind a zone, " + length, town -> Check.feed(town, text),
                town -> town.feed(0x78787878, 0, 0, 0, 0), -1);
        }
        DesertTown town = new DesertTown();
        Check.feed(town, " ".repeat(580));
        s.due("behind 580", blanks(town), 600);
        s.due("behind 600", blanks(town), -1);
        s.due("still 600", town.end(600), true);
        s.due("cut to 580", town.end(580), true);
        s.due("behind 580 again", blanks(town), 600);
    }

    private static void ending(Sentences s) {
        s.in("Promise 8");
        s.says("The TAPE has its first n bytes alone: true;");
        DesertTown town = new DesertTown();
        s.due("none of none", town.end(0), true);
        blanks(town);
        s.due("all of 20", town.end(20), true);
        s.due("20 still", Answers.lengthOfTape(town), 20);
        s.due("19 of 20", town.end(19), true);
        s.due("19 then", Answers.lengthOfTape(town), 19);
        s.due("20 are there no more", town.end(20), false);
        s.due("none of 19", town.end(0), true);
        s.due("none then", Answers.lengthOfTape(town), 0);
        s.due("1 is there no more", town.end(1), false);
        Check.feed(town, " ".repeat(600));
        s.due("all of 600", town.end(600), true);
        s.due("599 of 600", town.end(599), true);
        s.due("600 are there no more", town.end(600), false);
        s.due("none of 599", town.end(0), true);
        // The first bytes stay, not the last ones.
        Check.feed(town, ZONE + "zone");
        s.due("the first zone alone", town.end(ZONE.length()), true);
        s.due("is read", town.book(), 1);
        Check.feed(town, "zone" + ZONE);
        s.due("the first word alone", town.end(4), true);
        s.due("is a fault", town.book(), -1);
        s.due("at the end", town.fault(1), 4);
    }

    private static void endingWrongly(Sentences s) {
        s.says("false, changing nothing, if it has not so many, or n is below 0.");
        int[] beyond = {MIN, -600, -20, -1, 28, 40, 600, 601, MAX};
        for (int n : beyond) {
            // The usual tape has 27 bytes.
            s.refused("end(" + n + ") of 27", Sentences::usual, town -> town.end(n) ? 1 : 0, 0);
        }
        int[] ofNone = {MIN, -1, 1, 20, MAX};
        for (int n : ofNone) {
            s.refused("end(" + n + ") of none", town -> { }, town -> town.end(n) ? 1 : 0, 0);
        }
        s.refused("end(601) of 600", town -> Check.feed(town, " ".repeat(600)), town -> town.end(601) ? 1 : 0, 0);
        s.refused("end(-1) of 600", town -> Check.feed(town, " ".repeat(600)), town -> town.end(-1) ? 1 : 0, 0);
    }

    private static void booking(Sentences s) {
        s.in("Promise 9");
        s.says("The TAPE, empty then, is the ROAD BOOK: how many ZONES.");
        DesertTown town = new DesertTown();
        town.racer(60);
        s.due("an empty tape", town.book(), 0);
        Check.feed(town, ZONE);
        s.due("a tape is no book yet", town.time(0, 0), 100);
        s.due("nor has it zones", town.look(1), 0);
        s.due("one zone", town.book(), 1);
        s.due("it counts", town.time(0, 0), 150);
        s.due("the tape is empty", Answers.lengthOfTape(town), 0);
        s.due("another book", Check.book(town, "zone 1 from 0 to 10 at 20; zone 2 from 0 to 10 at 20;"), 2);
        s.due("in place of the first", town.time(0, 0), 100);
        s.due("stage 1", town.time(0, 1), 120);
        s.due("stage 2", town.time(0, 2), 120);
        s.due("an empty tape again", town.book(), 0);
        s.due("no zones", town.look(1), 0);
        s.due("stage 1 without", town.time(0, 1), 100);
        StringBuilder full = new StringBuilder();
        for (int k = 0; k < 28; k++) {
            full.append("zone").append(k / 4).append("from").append(k % 4).append("to").append(k % 4 + 1).append("at10;");
        }
        full.append(" ".repeat(600 - full.length()));
        s.due("28 zones on 600 bytes", Check.book(town, full.toString()), 28);
        for (int i = 0; i < 7; i++) {
            s.due("four in stage " + i, town.time(0, i), 96 + 24);
        }
        s.due("the tape is empty then", Answers.lengthOfTape(town), 0);
    }

    private static void bookingAFault(Sentences s) {
        s.says("NONE: a FAULT (it stays).");
        String[] faulty = {"zone", ZONE + "zone", "zone 0 from 0 to 100 at 10; zone 7", "zone 1 from 5 to 5",
            ZONE + "zone 1 from 0 to 9 at 10; zone 0 from 49 to 60 at 10;", "?", " ".repeat(599) + "?"};
        for (String text : faulty) {
            DesertTown town = new DesertTown();
            town.racer(60);
            s.due("a fault ahead of any book", Check.book(town, text), -1);
            s.due("no zones stay", town.look(1), 0);
            s.due("no zone counts", town.time(0, 0), 100);
            s.due("a good book", Check.book(town, "zone 0 from 0 to 10 at 20; zone 1 from 0 to 10 at 30;"), 2);
            s.due("a faulty one", Check.book(town, text), -1);
            s.due("and once more", Check.book(town, text), -1);
            s.due("the zones stay", town.look(1), 2);
            s.due("they count in 0", town.time(0, 0), 120);
            s.due("they count in 1", town.time(0, 1), 110);
            s.due("the tape is empty", Answers.lengthOfTape(town), 0);
        }
        faultLeavesAllElse(s, faulty);
    }

    private static void faultLeavesAllElse(Sentences s, String[] faulty) {
        Answers without = Answers.ofAllButFaults(Sentences.town(Sentences::usual));
        for (String text : faulty) {
            DesertTown town = Sentences.town(Sentences::usual);
            town.end(0);
            s.due("a faulty book in the usual town", Check.book(town, text), -1);
            s.same("it leaves", Answers.ofAllButFaults(town), without);
        }
    }

    private static void faults(Sentences s) {
        s.in("Promise 10");
        s.says("Of the latest book(): what 0 the FAULT (0 without one), 1 its place (NONE).");
        DesertTown town = new DesertTown();
        dueFault(s, town, "ahead of any", 0, -1);
        Check.book(town, ZONE);
        dueFault(s, town, "of a good one", 0, -1);
        Check.book(town, "?");
        dueFault(s, town, "of kind 1 at 0", 1, 0);
        Check.book(town, "zone 7");
        dueFault(s, town, "of kind 2", 2, 5);
        StringBuilder five = new StringBuilder();
        for (int z = 0; z < 5; z++) {
            five.append("zone0from").append(z).append("to").append(z + 1).append("at10;");
        }
        Check.book(town, five.toString());
        dueFault(s, town, "of kind 3", 3, 76);
        Check.feed(town, ZONE);
        dueFault(s, town, "until the next book", 3, 76);
        town.end(3);
        town.racer(60);
        town.camp(1, 5);
        dueFault(s, town, "whatever else is told", 3, 76);
        town.end(0);
        town.book();
        dueFault(s, town, "of a book without zones", 0, -1);
        Check.book(town, "zone" + " ".repeat(596));
        dueFault(s, town, "at the end of 600", 1, 600);
        s.says("NONE for another what.");
        int[] others = {MIN, -2, -1, 2, 3, MAX};
        for (int what : others) {
            s.due("fault(" + what + ") of a faulty one", town.fault(what), -1);
        }
        town.book();
        for (int what : others) {
            s.due("fault(" + what + ") of a good one", town.fault(what), -1);
        }
    }

    private static void dueFault(Sentences s, DesertTown town, String when, int kind, int place) {
        s.due("fault(0) " + when, town.fault(0), kind);
        s.due("fault(1) " + when, town.fault(1), place);
    }
}
