/**
 * A town that moves each night with a desert race: its road book, the racers' times and standings,
 * the kitchens of its camps, water, and sweepers. The promises stand in the project's document.
 */
public final class DesertTown {
    public static final int NONE = -1;

    private static final int STAGES = 7;
    private static final int CAMPS = STAGES + 1;
    private static final int LONGEST_STAGE = 900;
    private static final int MOST_RACERS = 10;
    private static final int MOST_ZONES = 4;
    private static final int MOST_BYTES = 600;
    private static final int BYTES_OF_A_FEED = 20;
    private static final int MINUTES_OF_A_DAY = 1440;
    private static final int MINUTES_OF_AN_HOUR = 60;

    private static final int LEAD = 0;
    private static final int STAY = 1;
    private static final int PACE = 2;
    private static final int CREW = 3;
    private static final int LITRES = 4;
    private static final int SETTINGS = 5;
    private static final int[] LEAST_SETTING = {0, 0, 10, 0, 0};
    private static final int[] MOST_SETTING = {600, 600, 120, 5000, 50};

    private final Course course;
    private final Racers racers;
    private final Tape tape;
    private final BookReader reader;
    private final Race race;
    private final Kitchens kitchens;
    private final int[] settings;
    private RoadBook roadBook;
    private RoadBook draft;
    private boolean stale;

    public DesertTown() {
        course = new Course();
        racers = new Racers();
        tape = new Tape();
        reader = new BookReader();
        race = new Race();
        kitchens = new Kitchens();
        settings = new int[] {60, 120, 60, 100, 10};
        roadBook = new RoadBook();
        draft = new RoadBook();
        stale = true;
    }

    public boolean camp(int c, int far) {
        if (!isCamp(c) || !within(far, 1, LONGEST_STAGE)) {
            return false;
        }
        course.lengths[c - 1] = far;
        racers.forgetBreaksFrom(c - 1, far);
        stale = true;
        return true;
    }

    public boolean hour(int i, int hour) {
        if (!isStage(i) || !within(hour, 0, 23)) {
            return false;
        }
        course.hours[i] = hour;
        stale = true;
        return true;
    }

    public int racer(int speed) {
        if (!within(speed, 10, 120)) {
            return NONE;
        }
        stale = true;
        return racers.add(speed);
    }

    public boolean breaks(int r, int i, int at) {
        if (!racers.has(r)) {
            return false;
        }
        if (i != NONE && !(isStage(i) && within(at, 0, course.lengths[i] - 1))) {
            return false;
        }
        racers.breakStages[r] = i;
        racers.breakKilometers[r] = at;
        stale = true;
        return true;
    }

    public boolean set(int what, int v) {
        if (!within(what, 0, SETTINGS - 1) || !within(v, LEAST_SETTING[what], MOST_SETTING[what])) {
            return false;
        }
        settings[what] = v;
        stale = true;
        return true;
    }

    public int feed(int a, int b, int c, int d, int e) {
        if (tape.length + BYTES_OF_A_FEED > MOST_BYTES) {
            return NONE;
        }
        tape.append(a);
        tape.append(b);
        tape.append(c);
        tape.append(d);
        tape.append(e);
        return tape.length;
    }

    public boolean end(int n) {
        if (!within(n, 0, tape.length)) {
            return false;
        }
        tape.length = n;
        return true;
    }

    public int book() {
        boolean good = reader.read(tape, draft);
        tape.length = 0;
        if (!good) {
            return NONE;
        }
        // The two books change places, so that a faulty text never touches the one in use.
        RoadBook replaced = roadBook;
        roadBook = draft;
        draft = replaced;
        stale = true;
        return roadBook.total;
    }

    public int fault(int what) {
        switch (what) {
            case 0:
                return reader.kind;
            case 1:
                return reader.place;
            default:
                return NONE;
        }
    }

    public int look(int what) {
        switch (what) {
            case 0:
                return racers.count;
            case 1:
                return roadBook.total;
            case 2:
                return course.kilometerOf(CAMPS - 1);
            default:
                return within(what, 3, 2 + SETTINGS) ? settings[what - 3] : NONE;
        }
    }

    public int time(int r, int i) {
        if (!racers.has(r) || !isStage(i)) {
            return NONE;
        }
        settle();
        return race.times[i][r];
    }

    public int ran(int r, int i, int what) {
        if (!racers.has(r) || !isStage(i)) {
            return NONE;
        }
        settle();
        switch (what) {
            case 0:
                return race.starts[i][r];
            case 1:
                return race.arrivals[i][r];
            case 2:
                return race.places[i][r];
            case 3:
                return race.sums[i][r];
            default:
                return NONE;
        }
    }

    public int standing(int i, int place) {
        if (!isStage(i)) {
            return NONE;
        }
        settle();
        return within(place, 0, race.came[i] - 1) ? race.orders[i][place] : NONE;
    }

    public int of(int c, int what) {
        if (!isCamp(c)) {
            return NONE;
        }
        settle();
        int arrive = race.came[c - 1];
        int people = settings[CREW] + arrive;
        switch (what) {
            case 0:
                return arrive;
            case 1:
                return arrive > 0 ? kitchens.opens[c] : NONE;
            case 2:
                return arrive > 0 ? kitchens.closes[c] : NONE;
            case 3:
                return arrive > 0 ? kitchens.setOf[c] : NONE;
            case 4:
                return people;
            case 5:
                return divideUpwards((long) people * settings[LITRES], 1000);
            default:
                return NONE;
        }
    }

    public int sets() {
        settle();
        return kitchens.fewest;
    }

    public int goes(int s) {
        settle();
        if (!within(s, 0, kitchens.fewest - 1)) {
            return NONE;
        }
        return course.kilometerOf(kitchens.lastCampOf(s)) - course.kilometerOf(kitchens.firstCampOf(s));
    }

    public int sweep(int i, int what) {
        if (!isStage(i)) {
            return NONE;
        }
        settle();
        int broken = race.brokenDown(i, racers);
        int taken = Integer.bitCount(broken);
        switch (what) {
            case 0:
                return divideUpwards(taken, 4);
            case 1:
                return broken;
            case 2:
                return taken > 0 ? sweepersCome(i, taken) : NONE;
            default:
                return NONE;
        }
    }

    private int sweepersCome(int i, int taken) {
        int start = race.lastStart(i) + 60;
        return start + minutesFor(course.lengths[i], 30) + 15 * taken;
    }

    /** Runs the race and plans the kitchens anew if anything was told since the last time. */
    private void settle() {
        if (!stale) {
            return;
        }
        race.run(course, racers, roadBook);
        kitchens.plan(course, race, settings);
        stale = false;
    }

    private static boolean within(int x, int least, int most) {
        return least <= x && x <= most;
    }

    private static boolean isStage(int i) {
        return within(i, 0, STAGES - 1);
    }

    private static boolean isCamp(int c) {
        return within(c, 1, CAMPS - 1);
    }

    /** For amounts from 0 on; a divisor below 1 never comes, and counts as nothing to be done. */
    private static int divideUpwards(long amount, long divisor) {
        return divisor < 1 ? 0 : (int) ((amount + divisor - 1) / divisor);
    }

    private static int minutesFor(int kilometers, int kilometersAnHour) {
        return divideUpwards((long) kilometers * MINUTES_OF_AN_HOUR, kilometersAnHour);
    }

    /** The stages' lengths and hours. */
    private static final class Course {
        final int[] lengths = {100, 100, 100, 100, 100, 100, 100};
        final int[] hours = {6, 6, 6, 6, 6, 6, 6};

        int kilometerOf(int camp) {
            int sum = 0;
            for (int i = 0; i < camp && i < STAGES; i++) {
                sum += lengths[i];
            }
            return sum;
        }

        int begins(int stage) {
            return isStage(stage) ? stage * MINUTES_OF_A_DAY + hours[stage] * MINUTES_OF_AN_HOUR : NONE;
        }
    }

    /** Who races, and where each one breaks down (a stage of NONE: nowhere). */
    private static final class Racers {
        final int[] speeds = new int[MOST_RACERS];
        final int[] breakStages = new int[MOST_RACERS];
        final int[] breakKilometers = new int[MOST_RACERS];
        int count;

        boolean has(int r) {
            return within(r, 0, count - 1);
        }

        int add(int speed) {
            if (count >= MOST_RACERS) {
                return NONE;
            }
            speeds[count] = speed;
            breakStages[count] = NONE;
            count++;
            return count - 1;
        }

        void forgetBreaksFrom(int stage, int kilometer) {
            for (int r = 0; r < count; r++) {
                if (breakStages[r] == stage && breakKilometers[r] >= kilometer) {
                    breakStages[r] = NONE;
                }
            }
        }
    }

    /** The bytes that were fed and are no road book yet. */
    private static final class Tape {
        final byte[] bytes = new byte[MOST_BYTES];
        int length;

        void append(int number) {
            for (int shift = 24; shift >= 0 && length < MOST_BYTES; shift -= 8) {
                bytes[length] = (byte) (number >> shift);
                length++;
            }
        }

        int byteAt(int p) {
            return within(p, 0, length - 1) ? bytes[p] & 255 : NONE;
        }
    }

    /** Zones by stage, each stage's in the order of its kilometers. */
    private static final class RoadBook {
        final int[] counts = new int[STAGES];
        final int[][] froms = new int[STAGES][MOST_ZONES];
        final int[][] tos = new int[STAGES][MOST_ZONES];
        final int[][] speeds = new int[STAGES][MOST_ZONES];
        int total;

        void clear() {
            for (int i = 0; i < STAGES; i++) {
                counts[i] = 0;
            }
            total = 0;
        }

        boolean isFull(int stage) {
            return !isStage(stage) || counts[stage] >= MOST_ZONES;
        }

        /** Where the zones of a stage end that are told so far. */
        int reach(int stage) {
            if (!isStage(stage) || !within(counts[stage], 1, MOST_ZONES)) {
                return 0;
            }
            return tos[stage][counts[stage] - 1];
        }

        void add(int stage, int from, int to, int speed) {
            if (isFull(stage)) {
                return;
            }
            int z = counts[stage];
            froms[stage][z] = from;
            tos[stage][z] = to;
            speeds[stage][z] = speed;
            counts[stage]++;
            total++;
        }
    }

    /** Reads a tape as a road book, and keeps the fault of the latest reading. */
    private static final class BookReader {
        private static final int SLOTS = 9;
        private static final int STAGE_SLOT = 1;
        private static final int FROM_SLOT = 3;
        private static final int TO_SLOT = 5;
        private static final int SPEED_SLOT = 7;
        private static final int CLOSING_SLOT = 8;

        int kind;
        int place = NONE;
        private int stage;
        private int from;
        private int to;
        private int speed;

        boolean read(Tape text, RoadBook into) {
            into.clear();
            kind = 0;
            place = NONE;
            int slot = 0;
            int start = behindBlanks(text, 0);
            // Every token takes a byte at least, so there are never more tokens than bytes.
            for (int tokens = 0; tokens < MOST_BYTES && start < text.length; tokens++) {
                int next = behindToken(text, start);
                kind = faultOf(text, start, next, slot, into);
                if (kind != 0) {
                    place = start;
                    return false;
                }
                slot = (slot + 1) % SLOTS;
                start = behindBlanks(text, next);
            }
            if (slot != 0) {
                kind = 1;
                place = text.length;
            }
            return slot == 0;
        }

        private int faultOf(Tape text, int start, int next, int slot, RoadBook into) {
            if (slot == CLOSING_SLOT) {
                if (text.byteAt(start) != ';') {
                    return 1;
                }
                into.add(stage, from, to, speed);
                return 0;
            }
            if (slot % 2 == 0) {
                return isWord(text, start, next, keywordOf(slot)) ? 0 : 1;
            }
            int number = numberOf(text, start, next);
            return number == NONE ? 1 : faultOfNumber(number, slot, into);
        }

        private int faultOfNumber(int number, int slot, RoadBook into) {
            switch (slot) {
                case STAGE_SLOT:
                    stage = number;
                    if (!isStage(number)) {
                        return 2;
                    }
                    return into.isFull(number) ? 3 : 0;
                case FROM_SLOT:
                    from = number;
                    return within(number, into.reach(stage), LONGEST_STAGE - 1) ? 0 : 2;
                case TO_SLOT:
                    to = number;
                    return within(number, from + 1, LONGEST_STAGE) ? 0 : 2;
                case SPEED_SLOT:
                    speed = number;
                    return within(number, 10, 99) ? 0 : 2;
                default:
                    return 1;
            }
        }

        private static String keywordOf(int slot) {
            switch (slot) {
                case 0:
                    return "zone";
                case 2:
                    return "from";
                case 4:
                    return "to";
                default:
                    return "at";
            }
        }

        private static int behindBlanks(Tape text, int p) {
            int next = p;
            while (next < text.length && isBlank(text.byteAt(next))) {
                next++;
            }
            return next;
        }

        private static int behindToken(Tape text, int start) {
            int next = start + 1;
            if (isLetter(text.byteAt(start))) {
                while (next < text.length && isLetter(text.byteAt(next))) {
                    next++;
                }
            } else if (isDigit(text.byteAt(start))) {
                while (next < text.length && isDigit(text.byteAt(next))) {
                    next++;
                }
            }
            return next;
        }

        private static boolean isWord(Tape text, int start, int next, String word) {
            if (next - start != word.length()) {
                return false;
            }
            for (int k = 0; k < word.length(); k++) {
                if (text.byteAt(start + k) != word.charAt(k)) {
                    return false;
                }
            }
            return true;
        }

        /** NONE for what is no number of 1 to 3 digits. */
        private static int numberOf(Tape text, int start, int next) {
            if (!isDigit(text.byteAt(start)) || next - start > 3) {
                return NONE;
            }
            int number = 0;
            for (int p = start; p < next; p++) {
                number = 10 * number + (text.byteAt(p) - '0');
            }
            return number;
        }

        private static boolean isBlank(int b) {
            return b == 32 || b == 10;
        }

        private static boolean isDigit(int b) {
            return within(b, '0', '9');
        }

        private static boolean isLetter(int b) {
            return within(b, 'a', 'z') || within(b, 'A', 'Z');
        }
    }

    /** What comes of course, racers and road book; rows by stage, in them columns by racer. */
    private static final class Race {
        final int[][] times = new int[STAGES][MOST_RACERS];
        final int[][] starts = new int[STAGES][MOST_RACERS];
        final int[][] arrivals = new int[STAGES][MOST_RACERS];
        final int[][] places = new int[STAGES][MOST_RACERS];
        final int[][] sums = new int[STAGES][MOST_RACERS];
        /** Columns by place here: who stands there. */
        final int[][] orders = new int[STAGES][MOST_RACERS];
        final int[] came = new int[STAGES];
        private final int[] started = new int[STAGES];
        private final int[] begins = new int[STAGES];

        void run(Course course, Racers racers, RoadBook book) {
            for (int i = 0; i < STAGES; i++) {
                forget(i);
                begins[i] = course.begins(i);
                for (int r = 0; r < racers.count; r++) {
                    times[i][r] = timeFor(racers.speeds[r], course.lengths[i], book, i);
                }
                runStage(i, racers);
                tellPlaces(i);
            }
        }

        int lastStart(int i) {
            return isStage(i) ? begins[i] + 2 * (started[i] - 1) : NONE;
        }

        /** The racers as bits. */
        int brokenDown(int i, Racers racers) {
            int broken = 0;
            for (int r = 0; r < racers.count; r++) {
                if (isStage(i) && racers.breakStages[r] == i && starts[i][r] != NONE) {
                    broken |= 1 << r;
                }
            }
            return broken;
        }

        int firstArrival(int i) {
            int first = NONE;
            for (int place = 0; isStage(i) && place < came[i]; place++) {
                int minute = arrivals[i][orders[i][place]];
                first = first == NONE ? minute : Math.min(first, minute);
            }
            return first;
        }

        int lastArrival(int i) {
            int last = NONE;
            for (int place = 0; isStage(i) && place < came[i]; place++) {
                last = Math.max(last, arrivals[i][orders[i][place]]);
            }
            return last;
        }

        private void forget(int i) {
            for (int r = 0; r < MOST_RACERS; r++) {
                starts[i][r] = NONE;
                arrivals[i][r] = NONE;
                places[i][r] = NONE;
                sums[i][r] = NONE;
            }
            came[i] = 0;
            started[i] = 0;
        }

        private void runStage(int i, Racers racers) {
            int starters = i == 0 ? racers.count : came[i - 1];
            for (int k = 0; k < starters; k++) {
                int r = i == 0 ? k : orders[i - 1][k];
                starts[i][r] = begins[i] + 2 * k;
                if (racers.breakStages[r] != i) {
                    arrivals[i][r] = starts[i][r] + times[i][r];
                    sums[i][r] = times[i][r] + (i == 0 ? 0 : sums[i - 1][r]);
                    rank(i, r);
                }
            }
            started[i] = starters;
        }

        /** Puts a racer among those who stand already. */
        private void rank(int i, int r) {
            int place = came[i];
            while (place > 0 && isAhead(i, r, orders[i][place - 1])) {
                orders[i][place] = orders[i][place - 1];
                place--;
            }
            orders[i][place] = r;
            came[i]++;
        }

        private boolean isAhead(int i, int r, int other) {
            return sums[i][r] < sums[i][other] || (sums[i][r] == sums[i][other] && r < other);
        }

        private void tellPlaces(int i) {
            for (int place = 0; place < came[i]; place++) {
                places[i][orders[i][place]] = place;
            }
        }

        /**
         * All parts are summed as one fraction, since only the whole is divided upwards; with five parts its
         * divisor stays below 120 to the fifth.
         */
        private static int timeFor(int speed, int length, RoadBook book, int stage) {
            long minutes = 0;
            long divisor = 1;
            int free = length;
            for (int z = 0; z < book.counts[stage] && z < MOST_ZONES; z++) {
                int kilometers = Math.min(book.tos[stage][z], length) - Math.min(book.froms[stage][z], length);
                int slower = Math.min(speed, book.speeds[stage][z]);
                minutes = minutes * slower + (long) kilometers * MINUTES_OF_AN_HOUR * divisor;
                divisor *= slower;
                free -= kilometers;
            }
            minutes = minutes * speed + (long) free * MINUTES_OF_AN_HOUR * divisor;
            return divideUpwards(minutes, divisor * speed);
        }
    }

    /** When the camps need a kitchen, and which set does each; columns by camp, column 0 is not used. */
    private static final class Kitchens {
        final int[] opens = new int[CAMPS];
        final int[] closes = new int[CAMPS];
        final int[] setOf = new int[CAMPS];
        int fewest;
        private final int[] kilometers = new int[CAMPS];
        private final int[] latestCamp = new int[STAGES];
        private int needing;
        private int pace;

        void plan(Course course, Race race, int[] settings) {
            needing = 0;
            pace = settings[PACE];
            // Who comes to a camp came to all those ahead of it: the camps in need are the first ones.
            for (int c = 1; c < CAMPS && race.came[c - 1] > 0; c++) {
                needing = c;
                opens[c] = race.firstArrival(c - 1) - settings[LEAD];
                closes[c] = race.lastArrival(c - 1) + settings[STAY];
                kilometers[c] = course.kilometerOf(c);
            }
            fewest = fewestSets();
        }

        /** As many sets as camps always do, so this is found; the share then stands in setOf. */
        private int fewestSets() {
            for (int most = 0; most <= needing; most++) {
                if (share(1, 0, most)) {
                    return most;
                }
            }
            return needing;
        }

        int firstCampOf(int s) {
            for (int c = 1; c <= needing; c++) {
                if (setOf[c] == s) {
                    return c;
                }
            }
            return 0;
        }

        int lastCampOf(int s) {
            for (int c = needing; c > 0; c--) {
                if (setOf[c] == s) {
                    return c;
                }
            }
            return 0;
        }

        /**
         * Gives camp c and those behind it to sets, the least ones first, with no more than most sets; used are in
         * use already. A camp a level: seven levels at most.
         */
        private boolean share(int c, int used, int most) {
            if (c > needing || c >= CAMPS) {
                return true;
            }
            for (int s = 0; s <= used && s < most && s < STAGES; s++) {
                int before = latestCamp[s];
                if (s == used || canDo(c, before)) {
                    setOf[c] = s;
                    latestCamp[s] = c;
                    if (share(c + 1, s == used ? used + 1 : used, most)) {
                        return true;
                    }
                    latestCamp[s] = before;
                }
            }
            return false;
        }

        private boolean canDo(int camp, int before) {
            int way = minutesFor(kilometers[camp] - kilometers[before], pace);
            return closes[before] + way <= opens[camp];
        }
    }
}
