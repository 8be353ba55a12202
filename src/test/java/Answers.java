import java.util.ArrayList;
import java.util.List;

/**
 * All that a town answers to questions. An object is good for 512 calls: some 210 go into the questions, some 40 more
 * into what the tape holds, so that a town of few calls can be asked twice.
 */
final class Answers {
    private final List<String> rows = new ArrayList<>();

    private Answers() {
    }

    static Answers ofQuestions(DesertTown town) {
        Answers answers = new Answers();
        answers.askFaults(town);
        answers.askAllButFaults(town);
        return answers;
    }

    static Answers ofAllButFaults(DesertTown town) {
        Answers answers = new Answers();
        answers.askAllButFaults(town);
        return answers;
    }

    /** The tape is read as a road book at the end, so the town is another one then. */
    static Answers ofAll(DesertTown town) {
        Answers answers = ofQuestions(town);
        answers.add("bytes of the tape", lengthOfTape(town));
        answers.add("book()", town.book());
        answers.add("fault(0) of the tape", town.fault(0));
        answers.add("fault(1) of the tape", town.fault(1));
        answers.add("look(1) of the tape", town.look(1));
        for (int i = 0; i < 7; i++) {
            answers.add("time(0, " + i + ") by the tape", town.time(0, i));
        }
        return answers;
    }

    /** The first row that differs; nothing if none does. */
    String differenceTo(Answers other) {
        if (rows.size() != other.rows.size()) {
            return rows.size() + " rows, not " + other.rows.size();
        }
        for (int k = 0; k < rows.size(); k++) {
            if (!rows.get(k).equals(other.rows.get(k))) {
                return rows.get(k) + ", not " + other.rows.get(k);
            }
        }
        return "";
    }

    /** What is fed here is cut off again. */
    static int lengthOfTape(DesertTown town) {
        int fed = town.feed(0, 0, 0, 0, 0);
        if (fed != DesertTown.NONE) {
            town.end(fed - 20);
            return fed - 20;
        }
        for (int n = 600; n > 580; n--) {
            if (town.end(n)) {
                return n;
            }
        }
        return DesertTown.NONE;
    }

    private void askFaults(DesertTown town) {
        add("fault(0)", town.fault(0));
        add("fault(1)", town.fault(1));
    }

    private void askAllButFaults(DesertTown town) {
        for (int what = 0; what <= 7; what++) {
            add("look(" + what + ")", town.look(what));
        }
        askRacers(town);
        askCampsAndStages(town);
    }

    private void askRacers(DesertTown town) {
        int[] some = town.look(0) <= 3 ? new int[] {0, 1, 2} : new int[] {0, 9, 10};
        for (int i = 0; i < 7; i++) {
            for (int r : some) {
                add("time(" + r + ", " + i + ")", town.time(r, i));
                for (int what = 0; what < 4; what++) {
                    add("ran(" + r + ", " + i + ", " + what + ")", town.ran(r, i, what));
                }
                add("standing(" + i + ", " + r + ")", town.standing(i, r));
            }
        }
    }

    private void askCampsAndStages(DesertTown town) {
        for (int c = 1; c <= 7; c++) {
            for (int what = 0; what < 6; what++) {
                add("of(" + c + ", " + what + ")", town.of(c, what));
            }
            for (int what = 0; what < 3; what++) {
                add("sweep(" + (c - 1) + ", " + what + ")", town.sweep(c - 1, what));
            }
        }
        add("sets()", town.sets());
        for (int s = 0; s < 4; s++) {
            add("goes(" + s + ")", town.goes(s));
        }
    }

    private void add(String call, int answer) {
        rows.add(call + " " + answer);
    }
}
