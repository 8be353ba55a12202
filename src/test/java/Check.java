/** Counts answers that are not the ones that are due; a test ends with exit code 1 if there was one. */
final class Check {
    private final String test;
    private int wrong;
    private int done;

    Check(String test) {
        this.test = test;
    }

    void due(String call, long got, long want) {
        done++;
        if (got != want) {
            wrong++;
            System.out.println(test + ": " + call + " answered " + got + ", due is " + want);
        }
    }

    void due(String call, boolean got, boolean want) {
        due(call, got ? 1 : 0, want ? 1 : 0);
    }

    void finish() {
        System.out.println(test + ": " + done + " answers, " + wrong + " wrong");
        if (wrong != 0) {
            System.exit(1);
        }
    }

    /** Feeds a text and cuts the tape to it; characters count as bytes. */
    static void feed(DesertTown town, String text) {
        StringBuilder padded = new StringBuilder(text);
        while (padded.length() % 20 != 0) {
            padded.append(' ');
        }
        for (int p = 0; p < padded.length(); p += 20) {
            town.feed(word(padded, p), word(padded, p + 4), word(padded, p + 8), word(padded, p + 12), word(padded, p + 16));
        }
        town.end(text.length());
    }

    static int book(DesertTown town, String text) {
        feed(town, text);
        return town.book();
    }

    static int word(CharSequence text, int p) {
        return text.charAt(p) << 24 | text.charAt(p + 1) << 16 | text.charAt(p + 2) << 8 | text.charAt(p + 3);
    }
}
