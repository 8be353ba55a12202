import java.math.BigInteger;
import java.util.ArrayList;
import java.util.Comparator;
import java.util.List;
import java.util.regex.Matcher;
import java.util.regex.Pattern;

/** The document's rules once more, in the plainest and slowest way, to hold the program against. */
final class Model {
    static final class Zone {
        int stage;
        int from;
        int to;
        int speed;
    }

    private static final Pattern TOKEN = Pattern.compile("[A-Za-z]+|[0-9]+|[^ \n]");
    private static final BigInteger ALL_SPEEDS = dividedByAllSpeeds();
    private static final String[] FORM = {"zone", "N", "from", "N", "to", "N", "at", "N", ";"};

    final int[] length = {100, 100, 100, 100, 100, 100, 100};
    final int[] hour = {6, 6, 6, 6, 6, 6, 6};
    final int[] setting = {60, 120, 60, 100, 10};
    final List<Integer> speed = new ArrayList<>();
    final List<Integer> breakStage = new ArrayList<>();
    final List<Integer> breakAt = new ArrayList<>();
    List<Zone> zones = new ArrayList<>();
    int fault = 0;
    int place = -1;

    boolean camp(int c, int far) {
        if (c < 1 || c > 7 || far < 1 || far > 900) {
            return false;
        }
        length[c - 1] = far;
        for (int r = 0; r < speed.size(); r++) {
            if (breakStage.get(r) == c - 1 && breakAt.get(r) > far - 1) {
                breakStage.set(r, -1);
            }
        }
        return true;
    }

    boolean hour(int i, int h) {
        if (i < 0 || i > 6 || h < 0 || h > 23) {
            return false;
        }
        hour[i] = h;
        return true;
    }

    int racer(int s) {
        if (s < 10 || s > 120 || speed.size() == 10) {
            return -1;
        }
        speed.add(s);
        breakStage.add(-1);
        breakAt.add(0);
        return speed.size() - 1;
    }

    boolean breaks(int r, int i, int at) {
        if (r < 0 || r >= speed.size() || i < -1 || i > 6) {
            return false;
        }
        if (i >= 0 && (at < 0 || at >= length[i])) {
            return false;
        }
        breakStage.set(r, i);
        breakAt.set(r, at);
        return true;
    }

    int book(String text) {
        List<Zone> read = new ArrayList<>();
        fault = 0;
        place = -1;
        Zone zone = new Zone();
        int slot = 0;
        Matcher matcher = TOKEN.matcher(text);
        while (matcher.find()) {
            String token = matcher.group();
            int kind = FORM[slot].equals("N") ? faultOfNumber(token, slot, zone, read) : token.equals(FORM[slot]) ? 0 : 1;
            if (kind != 0) {
                fault = kind;
                place = matcher.start();
                return -1;
            }
            slot++;
            if (slot == 9) {
                read.add(zone);
                zone = new Zone();
                slot = 0;
            }
        }
        if (slot != 0) {
            fault = 1;
            place = text.length();
            return -1;
        }
        zones = read;
        return zones.size();
    }

    private static int faultOfNumber(String token, int slot, Zone zone, List<Zone> read) {
        if (!token.matches("[0-9]{1,3}")) {
            return 1;
        }
        int n = Integer.parseInt(token);
        int alike = 0;
        int reach = 0;
        for (Zone other : read) {
            if (other.stage == (slot == 1 ? n : zone.stage)) {
                alike++;
                reach = other.to;
            }
        }
        if (slot == 1) {
            zone.stage = n;
            return n > 6 ? 2 : alike == 4 ? 3 : 0;
        }
        if (slot == 3) {
            zone.from = n;
            return n > 899 || n < reach ? 2 : 0;
        }
        if (slot == 5) {
            zone.to = n;
            return n <= zone.from || n > 900 ? 2 : 0;
        }
        zone.speed = n;
        return n < 10 || n > 99 ? 2 : 0;
    }

    private static BigInteger dividedByAllSpeeds() {
        BigInteger all = BigInteger.ONE;
        for (int s = 2; s <= 120; s++) {
            BigInteger next = BigInteger.valueOf(s);
            all = all.multiply(next).divide(all.gcd(next));
        }
        return all;
    }

    /** Kilometer by kilometer, over one divisor that all speeds divide. */
    int time(int r, int i) {
        BigInteger sum = BigInteger.ZERO;
        for (int k = 0; k < length[i]; k++) {
            int here = speed.get(r);
            for (Zone zone : zones) {
                if (zone.stage == i && zone.from <= k && k < zone.to) {
                    here = Math.min(here, zone.speed);
                }
            }
            sum = sum.add(ALL_SPEEDS.multiply(BigInteger.valueOf(60)).divide(BigInteger.valueOf(here)));
        }
        BigInteger[] parts = sum.divideAndRemainder(ALL_SPEEDS);
        return parts[0].intValue() + (parts[1].signum() > 0 ? 1 : 0);
    }

    int sum(int r, int i) {
        int sum = 0;
        for (int k = 0; k <= i; k++) {
            sum += time(r, k);
        }
        return sum;
    }

    boolean starts(int r, int i) {
        return breakStage.get(r) == -1 || breakStage.get(r) >= i;
    }

    boolean comes(int r, int i) {
        return breakStage.get(r) == -1 || breakStage.get(r) > i;
    }

    List<Integer> standing(int i) {
        List<Integer> those = new ArrayList<>();
        int[] sums = new int[speed.size()];
        for (int r = 0; r < speed.size(); r++) {
            if (comes(r, i)) {
                sums[r] = sum(r, i);
                those.add(r);
            }
        }
        those.sort(Comparator.comparingInt((Integer r) -> sums[r]).thenComparingInt(r -> r));
        return those;
    }

    List<Integer> order(int i) {
        if (i > 0) {
            return standing(i - 1);
        }
        List<Integer> all = new ArrayList<>();
        for (int r = 0; r < speed.size(); r++) {
            all.add(r);
        }
        return all;
    }

    int start(int r, int i) {
        int k = order(i).indexOf(r);
        return k < 0 ? -1 : 1440 * i + 60 * hour[i] + 2 * k;
    }

    int kilometer(int c) {
        int sum = 0;
        for (int i = 0; i < c; i++) {
            sum += length[i];
        }
        return sum;
    }

    /** From and to of camp c, or null if none arrives. */
    int[] need(int c) {
        int[] need = null;
        for (int r : standing(c - 1)) {
            int arrival = start(r, c - 1) + time(r, c - 1);
            if (need == null) {
                need = new int[] {arrival, arrival};
            }
            need[0] = Math.min(need[0], arrival);
            need[1] = Math.max(need[1], arrival);
        }
        return need == null ? null : new int[] {need[0] - setting[0], need[1] + setting[1]};
    }

    /** Of all ways to give the camps to sets those with the fewest sets, of these the least by camp 1, 2, .. */
    int[] share() {
        List<int[]> needs = new ArrayList<>();
        for (int c = 1; c <= 7; c++) {
            int[] need = need(c);
            if (need != null) {
                needs.add(need);
            }
        }
        int n = needs.size();
        int[] best = null;
        int fewest = 99;
        int ways = (int) Math.pow(n, n);
        for (int way = 0; way < ways; way++) {
            int[] sets = new int[n];
            int rest = way;
            for (int c = n - 1; c >= 0; c--) {
                sets[c] = rest % n;
                rest /= n;
            }
            int used = used(sets);
            if (used < fewest && used != 0 && canBe(sets, needs)) {
                fewest = used;
                best = sets;
            }
        }
        return best == null ? new int[0] : best;
    }

    /** 0 if a set is left out below one that is used. */
    static int used(int[] sets) {
        int mask = 0;
        for (int s : sets) {
            mask |= 1 << s;
        }
        return (mask & mask + 1) == 0 ? Integer.bitCount(mask) : 0;
    }

    private boolean canBe(int[] sets, List<int[]> needs) {
        for (int b = 0; b < sets.length; b++) {
            for (int a = b - 1; a >= 0; a--) {
                if (sets[a] == sets[b]) {
                    int way = (60 * (kilometer(b + 1) - kilometer(a + 1)) + setting[2] - 1) / setting[2];
                    if (needs.get(a)[1] + way > needs.get(b)[0]) {
                        return false;
                    }
                    break;
                }
            }
        }
        return true;
    }
}
