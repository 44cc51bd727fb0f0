/** "ORDERS" and promises 16 to 18: each sentence that names a boundary case has a test here. */
public final class EdgesOfOrdersTest {
    private static final Story BUSY = Stories.busy();
    private static final int RIGHT = -1;

    private EdgesOfOrdersTest() {
    }

    public static void main(String[] args) {
        atMostEightyCharacters();
        anyCharacter();
        emptyAtFirst();
        clearing();
        eightWords();
        oneToEightDigits();
        rangesOfNumbers();
        onlyDigits();
        singleBlanks();
        whatIsThereIsNoFault();
        theFirstFaultCounts();
        endsTooEarly();
        replacedCharacters();
        insertedCharacters();
        missingCharacters();
        faultsInLaterOrders();
        faultsAtTheEndOfAFullText();
        faultsAreErrors();
        theTextStays();
        oneActOfAll();
        upToTheFirstError();
        upToTheFirstRefusal();
        Due.end();
    }

    private static Story full(Story story) {
        return story.text("days 1;".repeat(10) + "days 00001");
    }

    private static void run(String text, int orders) {
        BUSY.text(text).isAct("runOrders() of '" + text + "'", s -> s.runOrders(), orders);
    }

    /** Without a fault, whatever the orders answer: they may be refused and set the reason. */
    private static void right(String text) {
        Due.isTrue("no fault in '" + text + "'", BUSY.text(text).told().runOrders() >= 0);
    }

    private static void fault(String text, int index) {
        if (index == RIGHT) {
            right(text);
        } else {
            BUSY.text(text).isError("runOrders() of '" + text + "'", s -> s.runOrders(), -100 - index);
        }
    }

    /** "There is a text of at most 80 characters", "FULL if it has 80 characters" */
    private static void atMostEightyCharacters() {
        Story empty = BUSY.and(s -> s.clearText());
        empty.isNoAct("the first character", s -> s.type('d'), 1);
        empty.times(79, s -> s.type('x')).isNoAct("the 80th character", s -> s.type('d'), 80);
        empty.times(80, s -> s.type('x')).isError("the 81st character", s -> s.type('d'), Due.FULL);
        empty.times(82, s -> s.type('x')).isNoAct("clearing a full text", s -> s.clearText(), 80);
        full(BUSY).isAct("a text of 80 characters", s -> s.runOrders(), 11);
        full(BUSY).and(s -> s.type('0')).isAct("and one that was full", s -> s.runOrders(), 11);
        full(BUSY).and(s -> s.clearText()).isNoAct("room again", s -> s.type('d'), 1);
    }

    /** "character: any character" */
    private static void anyCharacter() {
        for (char character : new char[] {0, 1, '\n', ' ', ';', '0', 'z', 127, 128, 255, 256, 0xd800, 0xffff}) {
            BUSY.and(s -> s.clearText()).isNoAct("type " + (int) character, s -> s.type(character), 1);
        }
        fault("days" + (char) 0 + "1", 0);
        fault("days" + (char) 160 + "1", 0);
        fault("days\t1", 0);
        fault("days 1" + (char) 0, 5);
        fault("days 1\n", 5);
        fault("days 1" + (char) (';' + 256) + "days 1", 5);
        fault("days" + (char) (' ' + 256) + "1", 0);
        fault("days " + (char) ('1' + 256), 5);
        fault((char) ('d' + 256) + "ays 1", 0);
    }

    /** "empty at first", and the empty text has a fault: its length. */
    private static void emptyAtFirst() {
        Story.of().isNoAct("clearing at first", s -> s.clearText(), 0);
        Story.of().isNoAct("typing at first", s -> s.type('x'), 1);
        Story.of().isError("running at first", s -> s.runOrders(), -100);
    }

    /** "Empties the text. Returns the length that it had." */
    private static void clearing() {
        BUSY.isNoAct("clearing a text", s -> s.clearText(), 18);
        BUSY.and(s -> s.clearText()).isNoAct("clearing an empty text", s -> s.clearText(), 0);
        BUSY.and(s -> s.clearText()).isError("running an empty text", s -> s.runOrders(), -100);
        BUSY.and(s -> s.clearText(), s -> s.type('d')).isNoAct("typing then", s -> s.type('a'), 2);
        BUSY.text("days 1").isAct("nothing is left of the text before", s -> s.runOrders(), 1);
    }

    /** "They stand for the methods with these names (days for pass())." */
    private static void eightWords() {
        BUSY.text("enter 0 3 9 500").isAct("enter", s -> s.runOrders(), 1);
        BUSY.text("enter 0 3 9 500").and(s -> s.runOrders()).isLike("enter", BUSY.and(s -> s.enter(0, 3, 9, 500)));
        BUSY.text("release 2 3").and(s -> s.runOrders()).isLike("release", BUSY.and(s -> s.release(2, 3)));
        BUSY.text("sample 2 3").and(s -> s.runOrders()).isLike("sample", BUSY.and(s -> s.sample(2, 3)));
        BUSY.text("export 1 4").and(s -> s.runOrders()).isLike("export", BUSY.and(s -> s.export(1, 4)));
        BUSY.text("prove 2").and(s -> s.runOrders()).isLike("prove", BUSY.and(s -> s.prove(2)));
        BUSY.text("destroy 2 3").and(s -> s.runOrders()).isLike("destroy", BUSY.and(s -> s.destroy(2, 3)));
        BUSY.text("give 0 1").and(s -> s.runOrders()).isLike("give", BUSY.and(s -> s.give(0, 1)));
        BUSY.text("days 9").and(s -> s.runOrders()).isLike("days", BUSY.and(s -> s.pass(9)));
        for (String word : new String[] {"pass 9", "Days 9", "day 9", "dayss 9", "DAYS 9", "undo", "keep 0",
            "restore 0", "addOwner", "deposit 0 1", "setRate 0 1", "enterr 0 3 9 500", "ente 0 3 9 500", "proves 2",
            "1", "0", "9 days",
            "xelease 2 3", "releasx 2 3", "samplx 2 3", "exporx 1 4", "destrox 2 3", "givx 0 1"}) {
            fault(word, 0);
        }
    }

    /** "A number has 1 to 8 digits (zeros can stand in front)." */
    private static void oneToEightDigits() {
        run("days 1", 1);
        run("days 01", 1);
        run("days 00000001", 1);
        run("days 00000100", 1);
        fault("days 000000001", 5);
        fault("days 000000100", 5);
        fault("days 0000000000000000000000000000001", 5);
        fault("days 4294967297", 5);
        fault("days 18446744073709551617", 5);
        fault("days ", 5);
        fault("days 00000000", 5);
        run("enter 00000000 00000005 00000009 00000500", 1);
        fault("enter 000000000 5 9 500", 6);
        fault("enter 0 000000005 9 500", 8);
        fault("enter 0 5 000000009 500", 10);
        fault("enter 0 5 9 000000500", 12);
        run("enter 0 5 9 10000000", 1);
        fault("enter 0 5 9 010000000", 12);
        run("enter 0 5 01000000 500", 1);
        fault("enter 0 5 001000000 500", 10);
    }

    private static void range(String before, String behind, String least, String most, String less, String more) {
        right(before + least + behind);
        right(before + most + behind);
        fault(before + less + behind, before.length());
        fault(before + more + behind, before.length());
        fault(before + "99999999" + behind, before.length());
        fault(before + behind, before.length());
    }

    /** "O is from 0 to 4, K from 0 to 5, L and E from 0 to 29, Q from 1 to 1000000, V ..., N from 1 to 100" */
    private static void rangesOfNumbers() {
        range("enter ", " 0 1 0", "0", "4", "-1", "5");
        range("enter 0 ", " 1 0", "0", "5", "-1", "6");
        range("enter 0 0 ", " 0", "1", "1000000", "0", "1000001");
        range("enter 0 0 1 ", "", "0", "10000000", "-1", "10000001");
        for (String word : new String[] {"release ", "sample ", "export ", "destroy "}) {
            range(word, " 1", "0", "29", "-1", "30");
            range(word + "0 ", "", "1", "1000000", "0", "1000001");
        }
        range("prove ", "", "0", "29", "-1", "30");
        range("give ", " 1", "0", "29", "-1", "30");
        range("give 0 ", "", "0", "4", "-1", "5");
        range("days ", "", "1", "100", "0", "101");
        range("days 1;days ", ";days 1", "1", "100", "0", "101");
    }

    /** A number is made of digits alone: all that stands between '0' and '9', and nothing beside. */
    private static void onlyDigits() {
        for (String number : new String[] {"x", "1x", "x1", "1x1", "+1", "-1", "-0", "1.0", "1e1", "0x1", "1_0", "1,0",
            "/", ":", "1/", "1:", "1l", "\u0661", "\uff11", "1\u0000"}) {
            fault("days " + number, 5);
        }
        run("days 10;days 23;days 45;days 67;days 89", 5);
    }

    /** "all separated by single blanks" */
    private static void singleBlanks() {
        fault("days  1", 5);
        fault("give 0  1", 7);
        fault(" days 1", 0);
        fault("days 1 ", 6);
        fault("days 1  ", 6);
        fault("days 1 ;days 1", 6);
        fault("days 1; days 1", 7);
        fault("days 1;  days 1", 7);
        fault("days 1,days 1", 5);
        fault("days 1;;days 1", 7);
        fault(" ", 0);
        fault(";", 0);
        fault("; days 1", 0);
    }

    /** "whether there is such an owner, lot or export plays no part" */
    private static void whatIsThereIsNoFault() {
        Story empty = Story.of();
        for (String text : new String[] {"enter 0 0 1 0", "enter 4 5 1 0", "release 0 1", "sample 29 1", "export 0 1",
            "prove 0", "prove 29", "destroy 29 1", "give 0 0", "give 29 4"}) {
            empty.text(text).isAct("'" + text + "' in an empty store", s -> s.runOrders(), 0);
        }
        empty.text("days 1;prove 29;days 1").isAct("one of three", s -> s.runOrders(), 1);
        BUSY.text("enter 3 0 1 0").isAct("an owner that is not there", s -> s.runOrders(), 0);
        BUSY.text("release 3 1").isAct("a lot that is not there", s -> s.runOrders(), 0);
        BUSY.text("prove 3").isAct("an export that is not there", s -> s.runOrders(), 0);
        BUSY.text("give 0 3").isAct("a new owner that is not there", s -> s.runOrders(), 0);
    }

    /** "The text is read from its beginning, and the first fault from there counts." */
    private static void theFirstFaultCounts() {
        fault("day 0", 0);
        fault("days 0;day 0", 5);
        fault("days 0 x", 5);
        fault("enter 9 9 0 x", 6);
        fault("enter 0 9 0 x", 8);
        fault("enter 0 0 0 x", 10);
        fault("enter 0 0 1 x", 12);
        fault("enter 0 0 1 0 x", 13);
        fault("days 1;days 0;days 0", 12);
        fault("days 1 ;days", 6);
        fault("days 101;", 5);
        fault("give 0;give", 6);
    }

    private static void truncated(String text, int... faults) {
        for (int length = 0; length < faults.length; length++) {
            fault(text.substring(0, length), faults[length]);
        }
    }

    /** "or it is the length of the text, if all before is right and the text ends too early" */
    private static void endsTooEarly() {
        fault("", 0);
        fault("days 1;", 7);
        fault("days", 4);
        truncated("enter 0 1 2 3", 0, 0, 0, 0, 0, 5, 6, 7, 8, 9, 10, 11, 12, RIGHT);
        truncated("days 1;give 2 3", 0, 0, 0, 0, 4, 5, RIGHT, 7, 7, 7, 7, 11, 12, 13, 14, RIGHT);
        truncated("prove 12;x", 0, 0, 0, 0, 0, 5, 6, RIGHT, RIGHT, 9, 9);
        truncated("sample 0 1", 0, 0, 0, 0, 0, 0, 6, 7, 8, 9, RIGHT);
    }

    private static void replaced(String text, char by, int... faults) {
        for (int i = 0; i < faults.length; i++) {
            fault(text.substring(0, i) + by + text.substring(i + 1), faults[i]);
        }
    }

    /** What is wrong with a word or number shows at its first character, what stands between at its own place. */
    private static void replacedCharacters() {
        replaced("give 3 4", 'x', 0, 0, 0, 0, 0, 5, 5, 7);
        replaced("give 3 4", '9', 0, 0, 0, 0, 0, RIGHT, 5, 7);
        replaced("give 3 4", ' ', 0, 0, 0, 0, RIGHT, 5, RIGHT, 7);
        replaced("give 3 4", ';', 0, 0, 0, 0, 4, 5, 6, 7);
        replaced("prove 1;days 2", ' ', 0, 0, 0, 0, 0, RIGHT, 6, 7, 8, 8, 8, 8, RIGHT, 13);
        replaced("prove 1;days 2", ';', 0, 0, 0, 0, 0, 5, 6, RIGHT, 8, 8, 8, 8, 12, 13);
        replaced("prove 1;days 2", 'x', 0, 0, 0, 0, 0, 0, 6, 6, 8, 8, 8, 8, 8, 13);
    }

    private static void inserted(String text, char character, int... faults) {
        for (int i = 0; i < faults.length; i++) {
            fault(text.substring(0, i) + character + text.substring(i), faults[i]);
        }
    }

    /** "(if it is empty, of what stands there instead)" */
    private static void insertedCharacters() {
        inserted("give 3 4", ' ', 0, 0, 0, 0, 5, 5, 7, 7, 8);
        inserted("give 3 4", ';', 0, 0, 0, 0, 4, 5, 6, 7, 9);
        inserted("give 3 4", 'x', 0, 0, 0, 0, 0, 5, 5, 7, 7);
        inserted("give 3 4", '0', 0, 0, 0, 0, 0, RIGHT, 5, RIGHT, 7);
        inserted("prove 1;days 2", ';', 0, 0, 0, 0, 0, 5, 6, 8, 8, 8, 8, 8, 12, 13, 15);
        inserted("prove 1;days 2", ' ', 0, 0, 0, 0, 0, 6, 6, 7, 8, 8, 8, 8, 13, 13, 14);
    }

    private static void missing(String text, int... faults) {
        for (int i = 0; i < faults.length; i++) {
            fault(text.substring(0, i) + text.substring(i + 1), faults[i]);
        }
    }

    private static void missingCharacters() {
        missing("give 3 4", 0, 0, 0, 0, 0, 5, 5, 7);
        missing("prove 1;days 2", 0, 0, 0, 0, 0, 0, 6, 6, 8, 8, 8, 8, 8, 13);
    }

    private static void faultsInLaterOrders() {
        String before = "days 1;give 0 1;";
        fault(before, 16);
        fault(before + ";", 16);
        fault(before + " ", 16);
        fault(before + "x", 16);
        fault(before + "days", 20);
        fault(before + "days;", 20);
        fault(before + "days 0", 21);
        fault(before + "days 1 ", 22);
        fault(before + "days 1;", 23);
    }

    private static void faultsAtTheEndOfAFullText() {
        String before = "days 1;".repeat(10);
        fault(before + "days 0001;", 80);
        fault(before + "days 0001 ", 79);
        fault(before + "days 0000x", 75);
        fault(before + "days 00101", 75);
        fault(before + "give 00 1;", 80);
        fault(before + "give 0001 ", 80);
        fault(before + "give 00001", 80);
        fault(before + "prove 0 00", 77);
        fault(before + "enter 0 0 ", 80);
        fault("x".repeat(80), 0);
        fault(";".repeat(80), 0);
        fault("days 1;".repeat(11) + "day", 77);
        fault("days 1;".repeat(11), 77);
    }

    /** "-100 minus the fault of the text if it has one (which is an error)" */
    private static void faultsAreErrors() {
        BUSY.text("days 1;days").isError("nothing is carried out", s -> s.runOrders(), -111);
        BUSY.text("release 2 100;days").isError("no reason is set", s -> s.runOrders(), -118);
        Story.of().text("days 1;days 0").isError("nothing is recorded", s -> s.runOrders(), -112);
    }

    /** "Carries out the orders of the text, which stays" */
    private static void theTextStays() {
        Story once = BUSY.text("days 1;days 2").and(s -> s.runOrders());
        once.isAct("a second time", s -> s.runOrders(), 2);
        once.isNoAct("its length", s -> s.clearText(), 13);
        once.and(s -> s.runOrders()).isLike("twice", BUSY.and(s -> s.pass(6)));
        once.and(s -> s.undo()).isAct("after undo", s -> s.runOrders(), 2);
        BUSY.text("prove 3").and(s -> s.runOrders()).isNoAct("after an error", s -> s.clearText(), 7);
        BUSY.text("days").and(s -> s.runOrders()).isNoAct("after a fault", s -> s.type(' '), 5);
    }

    /** "This is one act, also if no order is carried out." */
    private static void oneActOfAll() {
        Story few = Stories.oneLot(100);
        few.text("days 1;days 1;days 1").isAct("three orders", s -> s.runOrders(), 3);
        few.text("prove 0;days 1").isAct("no order", s -> s.runOrders(), 0);
        few.text("prove 0;days 1").and(s -> s.runOrders()).answers("states", s -> s.count(12), 5);
        BUSY.text("prove 3").and(s -> s.runOrders()).answers("states of a full history", s -> s.count(12), 6);
        few.text("release 0 8").and(s -> s.runOrders()).answers("states after a refusal", s -> s.count(12), 5);
        few.text("days 1").and(s -> s.runOrders()).isLike("what comes behind is a new act",
                few.text("days 1").and(s -> s.runOrders(), s -> s.pass(5), s -> s.undo()));
    }

    /** "one by one, up to the first one that would return an error" */
    private static void upToTheFirstError() {
        Story one = BUSY.and(s -> s.pass(1));
        for (String error : new String[] {"enter 3 0 1 0", "release 3 1", "sample 3 1", "export 3 1", "prove 3",
            "destroy 3 1", "give 3 0", "give 0 3", "give 0 0"}) {
            Story story = BUSY.text("days 1;" + error + ";days 2;days 3");
            story.isAct("orders ahead of " + error, s -> s.runOrders(), 1);
            story.and(s -> s.runOrders()).isLike("what is done ahead of " + error, one);
        }
        Story.of().text("enter 4 5 1000000 10000000").isAct("all at their greatest", s -> s.runOrders(), 0);
        run("export 2 1;prove 3;enter 0 0 5 50;destroy 3 0000001;give 3 1", 5);
        run("days 1;export 2 1;prove 3", 3);
        run("prove 3;export 2 1", 0);
        run("days 100;days 100;days 100;days 100;days 100;days 100;days 100;days 100", 8);
    }

    private static void refusedAt(Story story, String order, int reason) {
        Story text = story.text("days 1;" + order + ";days 2");
        Due.isTrue(order + " with another reason before", text.told().count(11) != reason);
        text.answers("orders ahead of " + order, s -> s.runOrders(), 1);
        text.and(s -> s.runOrders()).answers("the reason of " + order, s -> s.count(11), reason);
        text.and(s -> s.runOrders()).isLike("what is done ahead of " + order, story.and(s -> s.pass(1)));
        text.and(s -> s.runOrders()).and(s -> s.undo()).isLike(order + " undone", story);
        text.and(s -> s.runOrders()).and(s -> s.undo()).answers("the reason stays", s -> s.count(11), reason);
    }

    /** "(if it is refused, the reason is set)" */
    private static void upToTheFirstRefusal() {
        Story debtor = Stories.debtor().and(s -> s.enter(1, 0, 1, 1049));
        refusedAt(debtor, "enter 0 0 1 0", 1);
        refusedAt(debtor, "give 1 0", 1);
        refusedAt(BUSY, "enter 2 0 1 50", 2);
        refusedAt(BUSY, "give 2 1", 2);
        refusedAt(BUSY, "release 1 1", 3);
        refusedAt(BUSY, "sample 1 1", 3);
        refusedAt(BUSY, "destroy 1 1", 3);
        refusedAt(BUSY, "release 1 8", 4);
        refusedAt(BUSY, "sample 1 8", 4);
        refusedAt(BUSY, "export 1 8", 4);
        refusedAt(BUSY, "destroy 1 1000000", 4);
        refusedAt(Stories.withLots(Stories.owners(1, 0), 0, 0, 30), "enter 0 0 1 0", 5);
        refusedAt(Stories.thirtyExports(), "export 0 1", 5);
        refusedAt(BUSY.and(s -> s.release(1, 8)), "prove 0", 6);
        refusedAt(BUSY.and(s -> s.release(1, 8)), "prove 1", 6);
    }
}
