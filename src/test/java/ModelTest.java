import java.util.List;
import java.util.Random;

/** Towns by chance (the same each time), every answer held against the model's. */
public final class ModelTest {
    private static final Check CHECK = new Check("ModelTest");
    private static final int[] LEAST = {0, 0, 10, 0, 0};
    private static final int[] MOST = {600, 600, 120, 5000, 50};

    private final Random chance;
    private final String town;
    /** Long stages with slow racers: days and more of overlap between the camps' times. */
    private final boolean slow;
    private final DesertTown real = new DesertTown();
    private final Model model = new Model();

    private ModelTest(int seed) {
        chance = new Random(seed);
        town = "town " + seed + ", ";
        slow = seed % 2 == 1;
    }

    public static void main(String[] args) {
        for (int seed = 0; seed < 60; seed++) {
            new ModelTest(seed).live();
        }
        CHECK.finish();
    }

    private void live() {
        int slowest = 10 + chance.nextInt(slow ? 15 : 50);
        int racers = slow ? 1 + chance.nextInt(3) : chance.nextInt(11);
        for (int k = 0; k < racers; k++) {
            int speed = slowest + chance.nextInt(slow || chance.nextBoolean() ? 4 : 65);
            CHECK.due(town + "racer(" + speed + ")", real.racer(speed), model.racer(speed));
        }
        for (int round = 0; round < 3; round++) {
            change();
            compareRace();
            compareCamps();
        }
    }

    private void change() {
        for (int k = chance.nextInt(8); k >= 0; k--) {
            tellCourse();
            tellBreak();
            tellSetting();
        }
        String text = chance.nextInt(3) == 0 ? spoilt(text()) : text();
        CHECK.due(town + "book of " + text, Check.book(real, text), model.book(text));
        CHECK.due(town + "fault(0) of " + text, real.fault(0), model.fault);
        CHECK.due(town + "fault(1) of " + text, real.fault(1), model.place);
    }

    private void tellCourse() {
        int c = chance.nextInt(10) - 1;
        int far = slow || chance.nextInt(4) == 0 ? chance.nextInt(910) - 3 : chance.nextInt(120);
        CHECK.due(town + "camp(" + c + ", " + far + ")", real.camp(c, far), model.camp(c, far));
        int i = chance.nextInt(9) - 1;
        int hour = chance.nextInt(27) - 1;
        CHECK.due(town + "hour(" + i + ", " + hour + ")", real.hour(i, hour), model.hour(i, hour));
    }

    private void tellBreak() {
        int r = chance.nextInt(12) - 1;
        int i = !slow && chance.nextInt(3) == 0 ? chance.nextInt(9) - 1 : -1;
        int at = chance.nextInt(130) - 2;
        CHECK.due(town + "breaks(" + r + ", " + i + ", " + at + ")", real.breaks(r, i, at), model.breaks(r, i, at));
    }

    private void tellSetting() {
        int what = chance.nextInt(5);
        int v = LEAST[what] + chance.nextInt(MOST[what] - LEAST[what] + 1);
        CHECK.due(town + "set(" + what + ", " + v + ")", real.set(what, v), true);
        model.setting[what] = v;
    }

    private String text() {
        StringBuilder text = new StringBuilder();
        int[] reach = new int[7];
        int zones = chance.nextInt(12);
        for (int k = 0; k < zones; k++) {
            int i = chance.nextInt(7);
            int from = reach[i] + chance.nextInt(40);
            int to = from + 1 + chance.nextInt(chance.nextInt(5) == 0 ? 400 : 40);
            int speed = 10 + chance.nextInt(90);
            text.append("zone").append(blank()).append(i).append(blank()).append("from").append(blank()).append(from);
            text.append(blank()).append("to").append(blank()).append(to).append(blank()).append("at").append(blank());
            text.append(speed).append(blank()).append(";").append(blank());
            reach[i] = to;
        }
        return text.toString();
    }

    private String blank() {
        String[] blanks = {"", " ", " ", "\n", " \n"};
        return blanks[chance.nextInt(blanks.length)];
    }

    private String spoilt(String text) {
        if (text.isEmpty()) {
            return text;
        }
        int p = chance.nextInt(text.length());
        String odd = "; 09azZ\n\t~zonefrmta\u00e9";
        char other = odd.charAt(chance.nextInt(odd.length()));
        String rest = text.substring(p + chance.nextInt(2));
        return chance.nextInt(4) == 0 ? text.substring(0, p) : text.substring(0, p) + other + rest;
    }

    private void compareRace() {
        CHECK.due(town + "look(0)", real.look(0), model.speed.size());
        CHECK.due(town + "look(1)", real.look(1), model.zones.size());
        CHECK.due(town + "look(2)", real.look(2), model.kilometer(7));
        for (int i = 0; i < 7; i++) {
            List<Integer> standing = model.standing(i);
            for (int place = 0; place < 11; place++) {
                int who = place < standing.size() ? standing.get(place) : -1;
                CHECK.due(town + "standing(" + i + ", " + place + ")", real.standing(i, place), who);
            }
            for (int r = 0; r < model.speed.size(); r++) {
                compareRacer(r, i, standing.indexOf(r));
            }
            compareSweepers(i);
        }
    }

    private void compareRacer(int r, int i, int place) {
        String one = town + "racer " + r + " in stage " + i + ": ";
        int time = model.time(r, i);
        boolean comes = model.comes(r, i);
        int start = model.start(r, i);
        CHECK.due(one + "time", real.time(r, i), time);
        CHECK.due(one + "starts", start != -1, model.starts(r, i));
        CHECK.due(one + "start", real.ran(r, i, 0), start);
        CHECK.due(one + "arrival", real.ran(r, i, 1), comes ? start + time : -1);
        CHECK.due(one + "place", real.ran(r, i, 2), place);
        CHECK.due(one + "sum", real.ran(r, i, 3), comes ? model.sum(r, i) : -1);
    }

    private void compareSweepers(int i) {
        int taken = 0;
        int mask = 0;
        int lastStart = -1;
        for (int r = 0; r < model.speed.size(); r++) {
            lastStart = Math.max(lastStart, model.start(r, i));
            if (model.breakStage.get(r) == i) {
                taken++;
                mask |= 1 << r;
            }
        }
        CHECK.due(town + "sweep(" + i + ", 0)", real.sweep(i, 0), (taken + 3) / 4);
        CHECK.due(town + "sweep(" + i + ", 1)", real.sweep(i, 1), mask);
        int coming = taken == 0 ? -1 : lastStart + 60 + 2 * model.length[i] + 15 * taken;
        CHECK.due(town + "sweep(" + i + ", 2)", real.sweep(i, 2), coming);
    }

    private void compareCamps() {
        int[] share = model.share();
        for (int c = 1; c <= 7; c++) {
            String one = town + "camp " + c + ": ";
            int[] need = model.need(c);
            int people = model.setting[3] + model.standing(c - 1).size();
            CHECK.due(one + "arrive", real.of(c, 0), model.standing(c - 1).size());
            CHECK.due(one + "from", real.of(c, 1), need == null ? -1 : need[0]);
            CHECK.due(one + "to", real.of(c, 2), need == null ? -1 : need[1]);
            CHECK.due(one + "set", real.of(c, 3), need == null ? -1 : share[c - 1]);
            CHECK.due(one + "people", real.of(c, 4), people);
            CHECK.due(one + "tanks", real.of(c, 5), (people * model.setting[4] + 999) / 1000);
        }
        int sets = share.length == 0 ? 0 : Model.used(share);
        CHECK.due(town + "sets()", real.sets(), sets);
        for (int s = 0; s < 8; s++) {
            int way = -1;
            int first = -1;
            for (int c = 1; c <= share.length; c++) {
                if (share[c - 1] == s) {
                    first = first == -1 ? c : first;
                    way = model.kilometer(c) - model.kilometer(first);
                }
            }
            CHECK.due(town + "goes(" + s + ")", real.goes(s), way);
        }
    }
}
