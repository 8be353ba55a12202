import java.lang.reflect.Method;
import java.lang.reflect.Modifier;

/** What the document says of the class as a whole: what it is, its public face, and what is not promised. */
final class TheWhole {
    private static final int CALLS = 512;
    private static final int CALLS_OF_THE_USUAL = 22;
    private static final String[] METHODS = {
        "boolean camp(int c, int far)", "boolean hour(int i, int hour)", "int racer(int speed)",
        "boolean breaks(int r, int i, int at)", "boolean set(int what, int v)",
        "int feed(int a, int b, int c, int d, int e)", "boolean end(int n)", "int book()", "int fault(int what)",
        "int look(int what)", "int time(int r, int i)", "int ran(int r, int i, int what)",
        "int standing(int i, int place)", "int of(int c, int what)", "int sets()", "int goes(int s)",
        "int sweep(int i, int what)"};

    private TheWhole() {
    }

    static void test(Sentences s) {
        s.in("What it is");
        townThatMoves(s);
        zonesRacersAndStandings(s);
        kitchensAndSets(s);
        waterAndSweepers(s);
        lastOfAllCalls(s);
        s.in("The public face");
        face(s);
        s.in("Not promised");
        heldInside(s);
        notPromised(s);
    }

    private static void townThatMoves(Sentences s) {
        s.says("A town that moves each night with a desert race:");
        DesertTown town = new DesertTown();
        town.racer(100);
        for (int c = 1; c <= 7; c++) {
            int day = c - 1;
            s.due("camp " + c + " needs its kitchen on day " + day, town.of(c, 1) / 1440, day);
            s.due("and no longer than that", town.of(c, 2) / 1440, day);
            s.due("from there they start the day behind it", c == 7 ? c : town.ran(0, c, 0) / 1440, c);
        }
    }

    private static void zonesRacersAndStandings(Sentences s) {
        s.says("stages with zones told as a road book,");
        StringBuilder text = new StringBuilder();
        for (int i = 0; i < 7; i++) {
            text.append("zone ").append(i).append(" from 0 to ").append(10 + i).append(" at 30;\n");
        }
        DesertTown town = new DesertTown();
        town.racer(60);
        town.racer(90);
        s.due("a zone in each stage", Check.book(town, text.toString()), 7);
        s.says("racers timed to the minute through them, standings and starts by these;");
        int slower = 0;
        int faster = 0;
        for (int i = 0; i < 7; i++) {
            int kilometers = 10 + i;
            int rest = 100 - kilometers;
            slower += 2 * kilometers + rest;
            faster += 2 * kilometers + (2 * rest + 2) / 3;
            s.due("time of 0 in " + i, town.time(0, i), 2 * kilometers + rest);
            s.due("time of 1 in " + i, town.time(1, i), 2 * kilometers + (2 * rest + 2) / 3);
            s.due("sum of 0 in " + i, town.ran(0, i, 3), slower);
            s.due("sum of 1 in " + i, town.ran(1, i, 3), faster);
            s.due("first in " + i, town.standing(i, 0), 1);
            s.due("second in " + i, town.standing(i, 1), 0);
            s.due("start of 1 in " + i, town.ran(1, i, 0), 1440 * i + 360 + (i == 0 ? 2 : 0));
        }
    }

    private static void kitchensAndSets(Sentences s) {
        s.says("kitchens that are open ahead of the first and behind the last of each camp,");
        DesertTown town = new DesertTown();
        town.racer(60);
        town.racer(60);
        for (int c = 1; c <= 7; c++) {
            s.due("ahead of the first of " + c, town.of(c, 1), town.ran(0, c - 1, 1) - 60);
            s.due("behind the last of " + c, town.of(c, 2), town.ran(1, c - 1, 1) + 120);
        }
        s.says("the fewest sets that can leap from camp to camp;");
        s.due("one leaps to each", town.sets(), 1);
        s.due("over all of the way", town.goes(0), 600);
        town.set(0, 600);
        town.set(1, 600);
        town.set(2, 20);
        s.due("two leap over each other", town.sets(), 2);
        for (int c = 1; c <= 7; c++) {
            s.due("the set of camp " + c, town.of(c, 3), (c - 1) % 2);
        }
    }

    private static void waterAndSweepers(Sentences s) {
        s.says("water by head, and sweepers for those who broke down.");
        DesertTown town = new DesertTown();
        town.racer(60);
        s.due("water for 101", town.of(1, 5), 2);
        town.breaks(0, 0, 50);
        s.due("water for 100", town.of(1, 5), 1);
        s.due("a sweeper", town.sweep(0, 0), 1);
        s.due("for the one", town.sweep(0, 1), 1);
    }

    /** Each method as the 512th call answers as it does in a town that was told the same in few calls. */
    private static void lastOfAllCalls(Sentences s) {
        s.says("An object is used for at most 512 calls after it has been made; what later calls answer is free.");
        for (int which = 0; which < METHODS.length; which++) {
            DesertTown used = Sentences.town(Sentences::usual);
            for (int call = CALLS_OF_THE_USUAL + 1; call < CALLS; call++) {
                restlessCall(used, (call - CALLS_OF_THE_USUAL - 1) % 20);
            }
            int want = oneCall(Sentences.town(Sentences::usual), which);
            s.due(METHODS[which] + " as call 512", oneCall(used, which), want);
            // What these answer is free, but they have to end, and throw nothing.
            for (int later = 0; later < 1700; later++) {
                oneCall(used, later % METHODS.length);
            }
        }
    }

    /** Twenty calls that leave the usual town as it was, and so do the first nine of them. */
    private static void restlessCall(DesertTown town, int which) {
        switch (which) {
            case 0: town.camp(2, 900); break;
            case 1: town.camp(2, 300); break;
            case 2: town.hour(1, 0); break;
            case 3: town.hour(1, 9); break;
            case 4: town.racer(9); break;
            case 5: town.breaks(0, 0, 0); break;
            case 6: town.breaks(0, -1, 0); break;
            case 7: town.set(3, 0); break;
            case 8: town.set(3, 200); break;
            case 9: town.feed(0, 0, 0, 0, 0); break;
            case 10: town.end(27); break;
            case 11: town.fault(0); break;
            case 12: town.look(0); break;
            case 13: town.time(0, 0); break;
            case 14: town.ran(0, 0, 0); break;
            case 15: town.standing(0, 0); break;
            case 16: town.of(1, 3); break;
            case 17: town.sets(); break;
            case 18: town.goes(0); break;
            default: town.sweep(3, 1); break;
        }
    }

    /** In the order of METHODS. */
    private static int oneCall(DesertTown town, int which) {
        switch (which) {
            case 0: return town.camp(1, 50) ? 1 : 0;
            case 1: return town.hour(6, 23) ? 1 : 0;
            case 2: return town.racer(60);
            case 3: return town.breaks(2, 5, 99) ? 1 : 0;
            case 4: return town.set(4, 50) ? 1 : 0;
            case 5: return town.feed(1, 2, 3, 4, 5);
            case 6: return town.end(27) ? 1 : 0;
            case 7: return town.book();
            case 8: return town.fault(1);
            case 9: return town.look(2);
            case 10: return town.time(0, 1);
            case 11: return town.ran(0, 6, 3);
            case 12: return town.standing(6, 1);
            case 13: return town.of(7, 2);
            case 14: return town.sets();
            case 15: return town.goes(1);
            default: return town.sweep(3, 2);
        }
    }

    private static void face(Sentences s) {
        s.says("public final class DesertTown {");
        int kind = DesertTown.class.getModifiers();
        s.due("public and final", Modifier.isPublic(kind) && Modifier.isFinal(kind), true);
        s.due("without a package", DesertTown.class.getPackageName().length(), 0);
        s.says("public static final int NONE = -1;");
        s.due("NONE", DesertTown.NONE, -1);
        s.due("no other constant", DesertTown.class.getFields().length, 1);
        s.says("public DesertTown();");
        s.due("one constructor", DesertTown.class.getDeclaredConstructors().length, 1);
        s.due("that takes nothing", DesertTown.class.getConstructors()[0].getParameterCount(), 0);
        for (String method : METHODS) {
            s.says("public " + method + ";");
            s.due("is there as it stands there", isThere(method.replaceAll(" \\w+(?=[,)])", "").replace(", ", ",")), true);
        }
        int all = 0;
        for (Method method : DesertTown.class.getDeclaredMethods()) {
            all += Modifier.isPrivate(method.getModifiers()) ? 0 : 1;
        }
        s.due("no other method", all, METHODS.length);
    }

    private static boolean isThere(String method) {
        String want = "public " + method.replaceFirst(" ", " DesertTown.");
        for (Method one : DesertTown.class.getDeclaredMethods()) {
            if (one.toString().equals(want)) {
                return true;
            }
        }
        return false;
    }

    private static void heldInside(Sentences s) {
        s.says("How the state is held inside the object is free, as are the speed of each call, the text of toString and the"
            + " behaviour of equals and hashCode.");
        Answers alone = Answers.ofAll(Sentences.town(Sentences::usual));
        Answers nothing = Answers.ofAll(new DesertTown());
        DesertTown one = new DesertTown();
        DesertTown other = new DesertTown();
        Sentences.usual(one);
        s.same("what is told to one leaves in the other", Answers.ofAll(other), nothing);
        s.same("the one is told", Answers.ofAll(one), alone);
    }

    private static void notPromised(Sentences s) {
        s.says("Use of one object from several threads at once is not promised to be safe.");
        Answers[] got = new Answers[4];
        Thread[] threads = new Thread[got.length];
        for (int k = 0; k < threads.length; k++) {
            int own = k;
            threads[k] = new Thread(() -> got[own] = Answers.ofAll(Sentences.town(Sentences::usual)));
            threads[k].start();
        }
        Answers want = Answers.ofAll(Sentences.town(Sentences::usual));
        for (int k = 0; k < threads.length; k++) {
            s.due("thread " + k + " ends", ends(threads[k]), true);
            s.same("an object to each thread has", got[k], want);
        }
        s.says("Nothing is promised beyond the answers and state changes described above, and nothing about an object after"
            + " its 512th call.");
        DesertTown town = Sentences.town(Sentences::usual);
        Answers first = Answers.ofQuestions(town);
        s.same("questions leave", Answers.ofQuestions(town), first);
    }

    private static boolean ends(Thread thread) {
        try {
            thread.join(60_000);
        } catch (InterruptedException e) {
            return false;
        }
        return !thread.isAlive();
    }
}
