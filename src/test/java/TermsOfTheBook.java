/** The document's terms of the road book, its tokens and its faults, sentence by sentence. */
final class TermsOfTheBook {
    private static final String[] TOKENS = {"zone", "0", "from", "5", "to", "9", "at", "10", ";"};

    private TermsOfTheBook() {
    }

    static void test(Sentences s) {
        s.in("Terms");
        form(s);
        zonesOfSpeed(s);
        words(s);
        letters(s);
        numbers(s);
        blanks(s);
        firstAndLeastFault(s);
        faultAtTheEnd(s);
        wrongStages(s);
        wrongFroms(s);
        wrongTos(s);
        wrongSpeeds(s);
        fifthZone(s);
    }

    private static void form(Sentences s) {
        s.says("A ROAD BOOK is a TEXT = {zone N from N to N at N ;}: STAGE, KILOMETERS of it from .. to,");
        s.good("", 0);
        s.good("zone 0 from 5 to 9 at 10;", 1);
        s.good("zone 0 from 5 to 9 at 10; zone 1 from 5 to 9 at 10;", 2);
        s.good(full(7, 4), 28);
        for (int k = 0; k < TOKENS.length; k++) {
            // Whatever follows then can't stand there; without the last one that is the end, with no blank ahead of it.
            s.faulty(textWith(k, 0), 1, k == 8 ? placeOf(k) - 1 : placeOf(k));
            s.faulty(textWith(k, 2), 1, placeOf(k) + TOKENS[k].length() + 1);
        }
        DesertTown town = new DesertTown();
        town.racer(60);
        Check.book(town, "zone 1 from 10 to 40 at 30; zone 2 from 0 to 1 at 10; zone 3 from 99 to 100 at 10;");
        s.due("a stage without zones", town.time(0, 0), 100);
        s.due("30 kilometers at 30", town.time(0, 1), 70 + 60);
        s.due("its first kilometer at 10", town.time(0, 2), 99 + 6);
        s.due("its last kilometer at 10", town.time(0, 3), 99 + 6);
    }

    /** The usual zone with its k-th token so many times. */
    private static String textWith(int k, int times) {
        StringBuilder text = new StringBuilder();
        for (int t = 0; t < TOKENS.length; t++) {
            for (int n = 0; n < (t == k ? times : 1); n++) {
                text.append(text.length() == 0 ? "" : " ").append(TOKENS[t]);
            }
        }
        return text.toString();
    }

    private static int placeOf(int k) {
        int place = 0;
        for (int t = 0; t < k; t++) {
            place += TOKENS[t].length() + 1;
        }
        return place;
    }

    /** So many zones in each of the first stages, without blanks. */
    private static String full(int stages, int zones) {
        StringBuilder text = new StringBuilder();
        for (int z = 0; z < zones; z++) {
            for (int i = 0; i < stages; i++) {
                text.append("zone").append(i).append("from").append(z).append("to").append(z + 1).append("at10;");
            }
        }
        return text.toString();
    }

    private static void zonesOfSpeed(Sentences s) {
        s.says("a SPEED (10 .. 99) above which nobody goes there.");
        DesertTown town = new DesertTown();
        town.racer(98);
        town.racer(99);
        town.racer(100);
        town.racer(120);
        town.racer(10);
        town.camp(1, 900);
        town.camp(2, 900);
        s.due("book()", Check.book(town, "zone 0 from 0 to 900 at 99; zone 1 from 0 to 900 at 10;"), 2);
        // 54000 / 98 = 551.02, 54000 / 99 = 545.45
        int[] times = {552, 546, 546, 546, 5400};
        for (int r = 0; r < 5; r++) {
            s.due("at 99, racer " + r, town.time(r, 0), times[r]);
            s.due("at 10, racer " + r, town.time(r, 1), 5400);
        }
        s.good("zone 0 from 0 to 1 at 10;", 1);
        s.good("zone 0 from 0 to 1 at 99;", 1);
        s.faulty("zone 0 from 0 to 1 at 9;", 2, 22);
        s.faulty("zone 0 from 0 to 1 at 100;", 2, 22);
    }

    private static void words(Sentences s) {
        s.says("TOKENS: letters as many as stand together are KEYWORDS (zone from to at) or none;");
        s.good("zone0from5to9at10;", 1);
        String[] none = {"z", "zon", "zonee", "zonezone", "zonefrom", "Zone", "ZONE", "zonE", "zoneA", "enoz", "a", "from"};
        for (String word : none) {
            s.faulty(word, 1, 0);
            s.faulty(word + " 0 from 5 to 9 at 10;", 1, 0);
        }
        s.faulty("zone 0 fro 5", 1, 7);
        s.faulty("zone 0 froma 5", 1, 7);
        s.faulty("zone 0 fr om 5", 1, 7);
        s.faulty("zone 0 fromto", 1, 7);
        s.faulty("zone 0 from 5 t 9", 1, 14);
        s.faulty("zone 0 from 5 too 9", 1, 14);
        s.faulty("zone 0 from 5 toat", 1, 14);
        s.faulty("zone 0 from 5 to 9 a 10;", 1, 19);
        s.faulty("zone 0 from 5 to 9 att 10;", 1, 19);
        s.faulty("zone 0 from 5 to 9 At 10;", 1, 19);
    }

    /** A letter behind a keyword makes one word with it, that is none; any other byte stands alone. */
    private static void letters(Sentences s) {
        for (int b = 0; b < 256; b++) {
            String text = "zone" + (char) b + " from 5 to 9 at 10;";
            boolean letter = (b >= 'a' && b <= 'z') || (b >= 'A' && b <= 'Z');
            if (b >= '0' && b <= '6') {
                s.good(text, 1);
            } else if (b >= '7' && b <= '9') {
                s.faulty(text, 2, 4);
            } else if (b == ' ' || b == '\n') {
                s.faulty(text, 1, 6);
            } else {
                s.faulty(text, 1, letter ? 0 : 4);
            }
        }
    }

    private static void numbers(Sentences s) {
        s.says("digits as many as stand together NUMBERS of 1 to 3 digits or none; ; .");
        s.good("zone 6 from 8 to 9 at 10;", 1);
        s.good("zone 06 from 08 to 09 at 10;", 1);
        s.good("zone 006 from 008 to 009 at 010;", 1);
        s.faulty("zone 0006 from 8 to 9 at 10;", 1, 5);
        s.faulty("zone 6 from 0008 to 9 at 10;", 1, 12);
        s.faulty("zone 6 from 8 to 0009 at 10;", 1, 17);
        s.faulty("zone 6 from 8 to 9 at 0010;", 1, 22);
        // 2 to the power of 32 and a number of 500 digits: neither wraps around to a small one.
        s.faulty("zone 4294967296 from 8 to 9 at 10;", 1, 5);
        s.faulty("zone " + "0".repeat(500) + " from 8 to 9 at 10;", 1, 5);
        s.faulty("zone 0 from 1 2 to 20 at 10;", 1, 14);
        s.faulty("zone 0 from 5 to 9 at 10;;", 1, 25);
        s.faulty("zone 0 from 5 to 9 at 10.", 1, 24);
        s.faulty("zone 0 from 5 to 9 at 10; .", 1, 26);
        s.faulty("zone -0", 1, 5);
        s.faulty("zone +0", 1, 5);
    }

    private static void blanks(Sentences s) {
        s.says("Blanks (32, 10) between.");
        s.good(" ", 0);
        s.good("\n", 0);
        s.good(" ".repeat(600), 0);
        s.good("\n".repeat(600), 0);
        s.good("\n \nzone \n 0\n\nfrom  5\n to 9 at\n10 \n; \n", 1);
        for (int b = 0; b < 256; b++) {
            String text = "zone 0" + (char) b + "from 5 to 9 at 10;";
            if (b == ' ' || b == '\n' || (b >= '0' && b <= '6')) {
                s.good(text, 1);
            } else if (b >= '7' && b <= '9') {
                s.faulty(text, 2, 5);
            } else {
                s.faulty(text, 1, 6);
            }
        }
    }

    private static void firstAndLeastFault(Sentences s) {
        s.says("FAULTS, the first by its place, at one place the least:");
        s.faulty("zone 7 from 900 to 901 at 9 x", 2, 5);
        s.faulty("zone 6 from 900 to 901 at 9 x", 2, 12);
        s.faulty("zone 6 from 899 to 901 at 9 x", 2, 19);
        s.faulty("zone 6 from 899 to 900 at 9 x", 2, 26);
        s.faulty("zone 6 from 899 to 900 at 10 x", 1, 29);
        s.faulty("zone 6 form 900 to 901 at 9", 1, 7);
        s.faulty("zone 0 from 5 to 9 at 10; zone 7 x", 2, 31);
        s.faulty("zone 0 from 5 to 9 at 10; x zone 7", 1, 26);
        // A number of four digits can't stand there (1), whatever its worth would be (2) and whose zone it is (3).
        s.faulty("zone 9999", 1, 5);
        s.faulty("zone 0 from 9999", 1, 12);
        s.faulty("zone 0 from 5 to 0005", 1, 17);
        s.faulty("zone 0 from 5 to 9 at 1000", 1, 22);
        s.faulty(full(1, 4) + "zone0000", 1, 76);
        s.faulty(full(1, 4) + "zone7", 2, 76);
        s.faulty(full(1, 4) + "zone0from0to0at0", 3, 76);
    }

    private static void faultAtTheEnd(Sentences s) {
        s.says("1 what can't stand there (the end: the text's length).");
        StringBuilder text = new StringBuilder();
        for (int k = 0; k < TOKENS.length - 1; k++) {
            text.append(TOKENS[k]);
            s.faulty(text.toString(), 1, text.length());
            text.append(' ');
            s.faulty(text.toString(), 1, text.length());
            s.faulty(text + "\n\n", 1, text.length() + 2);
            s.faulty(text + "?", 1, text.length());
        }
        s.faulty("zone" + " ".repeat(596), 1, 600);
        s.faulty(" ".repeat(596) + "zone", 1, 600);
        s.faulty(" ".repeat(599) + ";", 1, 599);
        s.faulty(";", 1, 0);
        s.faulty("0", 1, 0);
        s.faulty("?", 1, 0);
    }

    private static void wrongStages(Sentences s) {
        s.says("2 (at a NUMBER) a STAGE above 6;");
        for (int i = 0; i <= 6; i++) {
            s.good("zone " + i + " from 5 to 9 at 10;", 1);
        }
        s.faulty("zone 7 from 5 to 9 at 10;", 2, 5);
        s.faulty("zone 007 from 5 to 9 at 10;", 2, 5);
        s.faulty("zone 10 from 5 to 9 at 10;", 2, 5);
        s.faulty("zone 999 from 5 to 9 at 10;", 2, 5);
        s.faulty("zone 256 from 5 to 9 at 10;", 2, 5);
    }

    private static void wrongFroms(Sentences s) {
        s.says("from above 899, or below the end of the ZONE ahead of it in that STAGE;");
        s.good("zone 0 from 0 to 900 at 10;", 1);
        s.good("zone 0 from 899 to 900 at 10;", 1);
        s.faulty("zone 0 from 900 to 900 at 10;", 2, 12);
        s.faulty("zone 0 from 999 to 999 at 10;", 2, 12);
        String ahead = "zone 0 from 5 to 9 at 10; ";
        s.good(ahead + "zone 0 from 9 to 10 at 10;", 2);
        s.good(ahead + "zone 0 from 899 to 900 at 10;", 2);
        s.faulty(ahead + "zone 0 from 8 to 10 at 10;", 2, 38);
        s.faulty(ahead + "zone 0 from 0 to 5 at 10;", 2, 38);
        s.good(ahead + "zone 1 from 0 to 5 at 10;", 2);
        String between = ahead + "zone 1 from 700 to 800 at 10; ";
        s.good(between + "zone 0 from 9 to 10 at 10;", 3);
        s.faulty(between + "zone 0 from 8 to 10 at 10;", 2, 68);
        String two = ahead + "zone 0 from 20 to 30 at 10; ";
        s.good(two + "zone 0 from 30 to 31 at 10;", 3);
        s.faulty(two + "zone 0 from 29 to 31 at 10;", 2, 66);
        String toTheEnd = "zone 0 from 5 to 900 at 10; ";
        s.faulty(toTheEnd + "zone 0 from 899 to 900 at 10;", 2, 40);
        s.faulty(toTheEnd + "zone 0 from 900 to 901 at 10;", 2, 40);
        DesertTown town = new DesertTown();
        Check.book(town, "zone 0 from 0 to 900 at 10;");
        s.due("the zones of an earlier book are not ahead", Check.book(town, "zone 0 from 0 to 1 at 10;"), 1);
        Check.book(town, "zone 0 from 0 to 800 at 10; zone");
        s.due("nor those of a faulty one", Check.book(town, "zone 0 from 0 to 1 at 10;"), 1);
    }

    private static void wrongTos(Sentences s) {
        s.says("to not above from, or above 900;");
        s.good("zone 0 from 5 to 6 at 10;", 1);
        s.faulty("zone 0 from 5 to 5 at 10;", 2, 17);
        s.faulty("zone 0 from 5 to 4 at 10;", 2, 17);
        s.faulty("zone 0 from 0 to 0 at 10;", 2, 17);
        s.good("zone 0 from 5 to 900 at 10;", 1);
        s.faulty("zone 0 from 5 to 901 at 10;", 2, 17);
        s.faulty("zone 0 from 5 to 999 at 10;", 2, 17);
    }

    private static void wrongSpeeds(Sentences s) {
        s.says("a SPEED that is none.");
        for (int speed = 0; speed <= 120; speed++) {
            String text = "zone 0 from 5 to 9 at " + speed + ";";
            if (speed >= 10 && speed <= 99) {
                s.good(text, 1);
            } else {
                s.faulty(text, 2, 22);
            }
        }
        s.faulty("zone 0 from 5 to 9 at 999;", 2, 22);
        s.faulty("zone 0 from 5 to 9 at 000;", 2, 22);
    }

    private static void fifthZone(Sentences s) {
        s.says("3 (at the NUMBER of the STAGE) its 5th ZONE.");
        for (int i = 0; i < 7; i++) {
            String five = full(1, 5).replace("zone0", "zone" + i);
            s.good(five.substring(0, 72), 4);
            s.faulty(five, 3, 76);
        }
        s.faulty(full(7, 4) + "zone6from9to10at10;", 3, 508);
        s.faulty(full(7, 4) + " zone  0", 3, 511);
        s.good(full(6, 4) + "zone6from9to10at10;", 25);
        DesertTown town = new DesertTown();
        s.due("a full book", Check.book(town, full(7, 4)), 28);
        s.due("the zones of an earlier book do not count", Check.book(town, full(7, 4)), 28);
        s.due("a faulty book", Check.book(town, full(7, 4) + "zone0"), -1);
        s.due("nor those of a faulty one", Check.book(town, full(7, 4)), 28);
    }
}
