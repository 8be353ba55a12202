import java.nio.file.Path;

/**
 * Holds tests to the sentences of the document: each test names the one that it is about, a wrong answer is told with
 * it, and at the end every word of the document's rules has to have been named.
 */
final class Sentences {
    static final int MIN = Integer.MIN_VALUE;
    static final int MAX = Integer.MAX_VALUE;

    private final Check check = new Check("SentencesTest");
    private final Document document = new Document(Path.of("..", "shared", "DOC.md"));
    private String section = "";
    private String sentence = "";

    /** A run of calls that tells a town something. */
    interface Told {
        void to(DesertTown town);
    }

    /** One call; of a boolean one 1 stands for true. */
    interface Call {
        int on(DesertTown town);
    }

    void in(String section) {
        this.section = section;
    }

    /** What follows is about these words of the section. */
    void says(String words) {
        sentence = words;
        if (document.isThere()) {
            check.due(section + " says '" + words + "'", document.name(section, words), true);
        }
    }

    void due(String call, long got, long want) {
        check.due(section + ", '" + sentence + "': " + call, got, want);
    }

    void due(String call, boolean got, boolean want) {
        due(call, got ? 1 : 0, want ? 1 : 0);
    }

    /** The call answers what it does when it is refused, and all questions are answered as before it. */
    void refused(String name, Told told, Call call, int want) {
        Answers plain = Answers.ofAll(town(told));
        DesertTown tried = town(told);
        due(name, call.on(tried), want);
        same(name + " leaves", Answers.ofAll(tried), plain);
        DesertTown asked = town(told);
        Answers before = Answers.ofQuestions(asked);
        due(name + " once more", call.on(asked), want);
        same(name + " leaves, asked before", Answers.ofQuestions(asked), before);
        same(name + " leaves in all", afterOneMore(told, call), afterOneMore(told, town -> 0));
    }

    void same(String what, Answers got, Answers want) {
        String difference = got.differenceTo(want);
        due(what + " all as it was (" + difference + ")", difference.length(), 0);
    }

    /** A text that has no fault. */
    void good(String text, int zones) {
        DesertTown town = new DesertTown();
        due("book() of '" + text + "'", Check.book(town, text), zones);
        due("fault(0) of '" + text + "'", town.fault(0), 0);
        due("fault(1) of '" + text + "'", town.fault(1), -1);
        due("look(1) of '" + text + "'", town.look(1), zones);
    }

    void faulty(String text, int kind, int place) {
        DesertTown town = new DesertTown();
        due("book() of '" + text + "'", Check.book(town, text), -1);
        due("fault(0) of '" + text + "'", town.fault(0), kind);
        due("fault(1) of '" + text + "'", town.fault(1), place);
        due("look(1) of '" + text + "'", town.look(1), 0);
    }

    void finish() {
        for (String name : document.sections()) {
            String rest = document.unnamed(name);
            check.due(name + ", words without a test: '" + rest + "'", rest.length(), 0);
        }
        check.finish();
    }

    static DesertTown town(Told told) {
        DesertTown town = new DesertTown();
        told.to(town);
        return town;
    }

    /** A town of three in which every question has more than one answer, with a fault and an unread tape. */
    static void usual(DesertTown town) {
        town.racer(50);
        town.racer(100);
        town.racer(90);
        town.camp(2, 300);
        town.hour(1, 9);
        Check.book(town, "zone 0 from 10 to 40 at 30; zone 1 from 0 to 50 at 20;");
        town.breaks(1, 3, 60);
        town.set(0, 90);
        town.set(1, 600);
        town.set(2, 10);
        town.set(3, 200);
        town.set(4, 7);
        Check.book(town, "zone 9");
        Check.feed(town, "zone 2 from 0 to 100 at 10;");
    }

    /** A later call that is taken has all worked out anew: what a refused one left behind would come to light. */
    private static Answers afterOneMore(Told told, Call call) {
        DesertTown town = town(told);
        call.on(town);
        town.hour(6, 7);
        return Answers.ofAll(town);
    }
}
