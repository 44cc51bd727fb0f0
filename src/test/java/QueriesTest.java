/** Promises 25 to 31: documents, deadlines, forecasts, accounts and counts. */
public final class QueriesTest {
    private static final int PLENTY = 100000000;

    private QueriesTest() {
    }

    public static void main(String[] args) {
        promise25DocumentLength();
        promise26DocumentAt();
        promise26Warnings();
        promise27NextDeadline();
        promise28CalledIn();
        promise29GreatestValue();
        promise29AgreesWithEnter();
        promise30Account();
        promise31Count();
        allRowsInUse();
        Due.end();
    }

    private static void document(BondedStore store, int lot, String want) {
        Due.is("length of " + want, store.documentLength(lot), want.length());
        String got = Due.document(store, lot);
        Due.isTrue("document " + got + ", due is " + want, got.equals(want));
    }

    private static void promise25DocumentLength() {
        BondedStore store = Due.storeOf(1, PLENTY);
        Due.is("documentLength(0)", store.documentLength(0), Due.UNKNOWN);
        Due.is("enter", store.enter(0, 0, 9, 10), 0);
        Due.is("documentLength(-1)", store.documentLength(-1), Due.UNKNOWN);
        Due.is("documentLength(1)", store.documentLength(1), Due.UNKNOWN);
        Due.is("L0/0:9+0", store.documentLength(0), 8);
        Due.is("enter", store.enter(0, 0, 1000000, 10), 1);
        Due.is("L1/0:1000000+0", store.documentLength(1), 14);
        Due.is("export", store.export(1, 900000), 0);
        Due.is("L1/0:100000+900000", store.documentLength(1), 18);
        for (int i = 2; i < 11; i++) {
            Due.is("enter", store.enter(0, 0, 10, 10), i);
        }
        Due.is("L10/0:10+0", store.documentLength(10), 10);
        Due.is("no act", store.count(12), 6);
    }

    private static void promise26DocumentAt() {
        BondedStore store = Due.storeOf(2, PLENTY);
        Due.is("documentAt(0, 0)", store.documentAt(0, 0), Due.UNKNOWN);
        Due.is("enter", store.enter(1, 0, 150, 10), 0);
        Due.is("documentAt(-1, 0)", store.documentAt(-1, 0), Due.UNKNOWN);
        Due.is("documentAt(1, -1)", store.documentAt(1, -1), Due.UNKNOWN);
        Due.is("documentAt(0, -1)", store.documentAt(0, -1), Due.BAD_VALUE);
        Due.is("documentAt(0, MIN)", store.documentAt(0, Integer.MIN_VALUE), Due.BAD_VALUE);
        Due.is("documentAt(0, MAX)", store.documentAt(0, Integer.MAX_VALUE), Due.NONE);
        Due.is("documentAt without documentLength", store.documentAt(0, 0), 'L');
        document(store, 0, "L0/1:150+0");
        Due.is("export", store.export(0, 20), 0);
        Due.is("documentAt after a change", store.documentAt(0, 6), '3');
        Due.is("export", store.export(0, 3), 1);
        document(store, 0, "L0/1:127+23");
        Due.is("give", store.give(0, 0), 1);
        Due.is("prove", store.prove(0), 0);
        document(store, 0, "L0/0:127+3");
        for (int i = 1; i < 12; i++) {
            Due.is("enter", store.enter(1, 0, 5, 10), i);
        }
        document(store, 11, "L11/1:5+0");
        document(store, 10, "L10/1:5+0");
        Due.is("export", store.export(0, 127), 2);
        document(store, 0, "L0/0:0+130");
    }

    private static void promise26Warnings() {
        BondedStore store = Due.storeOf(1, PLENTY);
        Due.is("setTerms", store.setTerms(50, 20), 100);
        Due.is("enter", store.enter(0, 0, 10, 10), 0);
        Due.is("enter", store.enter(0, 0, 10, 10), 1);
        Due.is("enter", store.enter(0, 0, 10, 10), 2);
        Due.is("pass", store.pass(22), 0);
        Due.is("export", store.export(0, 4), 0);
        Due.is("export", store.export(2, 10), 1);
        Due.is("pass", store.pass(12), 0);
        document(store, 0, "L0/0:6+4");
        Due.is("pass", store.pass(1), 0);
        document(store, 0, "L0/0:6+4!");
        document(store, 1, "L1/0:10+0");
        document(store, 2, "L2/0:0+10!");
        Due.is("prove", store.prove(0), 0);
        document(store, 0, "L0/0:6+0");
        Due.is("pass", store.pass(7), 0);
        document(store, 0, "L0/0:6+0");
        Due.is("pass", store.pass(1), 1);
        document(store, 0, "L0/0:6+0!");
        document(store, 1, "L1/0:10+0!");
        document(store, 2, "L2/0:0+0");
        Due.is("export of all with a later deadline", store.export(1, 10), 2);
        document(store, 1, "L1/0:0+10");
        Due.is("pass", store.pass(8), 1);
        document(store, 0, "L0/0:0+0");

        BondedStore brief = Due.storeOf(1, PLENTY);
        Due.is("setTerms", brief.setTerms(8, 7), 100);
        Due.is("enter", brief.enter(0, 0, 10, 10), 0);
        document(brief, 0, "L0/0:10+0");
        Due.is("export", brief.export(0, 1), 0);
        document(brief, 0, "L0/0:9+1!");
        Due.is("setTerms", brief.setTerms(7, 8), 8);
        Due.is("enter", brief.enter(0, 0, 10, 10), 1);
        document(brief, 1, "L1/0:10+0!");
    }

    private static void promise27NextDeadline() {
        BondedStore store = Due.storeOf(1, PLENTY);
        Due.is("none", store.nextDeadline(), Due.NONE);
        Due.is("setTerms", store.setTerms(30, 20), 100);
        Due.is("enter", store.enter(0, 0, 10, 10), 0);
        Due.is("enter", store.enter(0, 0, 10, 10), 1);
        Due.is("lowest of two", store.nextDeadline(), 0);
        Due.is("setTerms", store.setTerms(20, 30), 30);
        Due.is("enter", store.enter(0, 0, 10, 10), 2);
        Due.is("earlier", store.nextDeadline(), 2);
        Due.is("export", store.export(2, 9), 0);
        Due.is("setTerms", store.setTerms(20, 20), 20);
        Due.is("export", store.export(0, 1), 1);
        Due.is("lots ahead of exports", store.nextDeadline(), 2);
        Due.is("export", store.export(2, 1), 2);
        Due.is("lowest of two exports", store.nextDeadline(), 101);
        Due.is("prove", store.prove(1), 0);
        Due.is("the next", store.nextDeadline(), 102);
        Due.is("setTerms", store.setTerms(1000, 19), 20);
        Due.is("export", store.export(1, 10), 3);
        Due.is("the latest made comes first", store.nextDeadline(), 103);
        Due.is("pass", store.pass(20), 1);
        Due.is("lost ones are none", store.nextDeadline(), 102);
        Due.is("pass", store.pass(1), 1);
        Due.is("a lot with an export of the same day", store.nextDeadline(), 0);
        Due.is("pass", store.pass(10), 1);
        Due.is("all done", store.nextDeadline(), Due.NONE);
        Due.is("enter", store.enter(0, 0, 10, 10), 3);
        Due.is("the latest deadline", store.nextDeadline(), 3);
    }

    private static void promise28CalledIn() {
        BondedStore store = Due.storeOf(2, 1000);
        Due.is("calledIn(0)", store.calledIn(0), Due.BAD_VALUE);
        Due.is("calledIn(-1)", store.calledIn(-1), Due.BAD_VALUE);
        Due.is("calledIn(101)", store.calledIn(101), Due.BAD_VALUE);
        Due.is("calledIn(1)", store.calledIn(1), 0);
        Due.is("nothing", store.calledIn(100), 0);
        Due.is("setTerms", store.setTerms(50, 20), 100);
        Due.is("enter", store.enter(0, 0, 7, 1000), 0);
        Due.is("enter", store.enter(1, 0, 7, 2000), 1);
        Due.is("pass", store.pass(2), 0);
        Due.is("export", store.export(0, 3), 0);
        Due.is("calledIn(20)", store.calledIn(20), 0);
        Due.is("calledIn(21)", store.calledIn(21), 42);
        Due.is("calledIn(48)", store.calledIn(48), 42);
        Due.is("calledIn(49)", store.calledIn(49), 300);
        Due.is("calledIn(100)", store.calledIn(100), 300);
        Due.is("nothing changed", store.count(0), 2);
        Due.is("nothing recorded", store.count(12), 6);
        Due.is("nothing called", store.account(4), 0);
        Due.is("prove", store.prove(0), 42);
        Due.is("without the proved", store.calledIn(100), 258);
        Due.is("as pass does", store.pass(49), 258);
        Due.is("no more", store.calledIn(100), 0);
    }

    private static void promise29GreatestValue() {
        BondedStore store = Due.storeOf(2, 20);
        Due.is("greatestValue(-1, 0)", store.greatestValue(-1, 0), Due.UNKNOWN);
        Due.is("greatestValue(2, 0)", store.greatestValue(2, 0), Due.UNKNOWN);
        Due.is("greatestValue(0, -1)", store.greatestValue(0, -1), Due.UNKNOWN);
        Due.is("greatestValue(0, 6)", store.greatestValue(0, 6), Due.UNKNOWN);
        Due.is("duty of 104", store.greatestValue(0, 0), 1049);
        Due.is("setRate", store.setRate(1, 1000), 100);
        Due.is("at 1000", store.greatestValue(0, 1), 104);
        Due.is("setRate", store.setRate(2, 0), 100);
        Due.is("at 0", store.greatestValue(0, 2), 10000000);
        Due.is("kind 5", store.greatestValue(0, 5), 1049);
        Due.is("setRate", store.setRate(3, 1), 100);
        Due.is("at 1", store.greatestValue(0, 3), 104999);
        Due.is("enter", store.enter(0, 0, 10, 1049), 0);
        Due.is("no duty left", store.greatestValue(0, 0), 9);
        Due.is("no duty left at 1000", store.greatestValue(0, 1), 0);
        Due.is("setRules", store.setRules(21, 20, 10), 20);
        Due.is("not covered", store.greatestValue(0, 0), Due.NONE);
        Due.is("not covered at 0", store.greatestValue(0, 2), Due.NONE);
        Due.is("unknown ahead of none", store.greatestValue(0, 6), Due.UNKNOWN);
        Due.is("the other owner", store.greatestValue(1, 1), 99);
        Due.is("setRules", store.setRules(0, 20, 10), 21);
        Due.is("cover 0", store.greatestValue(0, 1), 10000000);
        Due.is("setRules", store.setRules(100, 20, 10), 0);
        Due.is("setGuarantee", store.setGuarantee(1, 10000000), 20);
        Due.is("just enough", store.greatestValue(1, 1), 10000000);
        Due.is("setGuarantee", store.setGuarantee(1, 9999999), 10000000);
        Due.is("just too little", store.greatestValue(1, 1), 9999999);
        Due.is("no act", store.count(12), 6);
        Due.is("pass", store.pass(100), 0);
        Due.is("pass", store.pass(1), 104);
        Due.is("a debt plays no part", store.greatestValue(0, 0), 9);
        while (store.count(2) < 30) {
            Due.isTrue("enter", store.enter(1, 0, 1, 0) > 0);
        }
        Due.is("30 lots play no part", store.greatestValue(1, 1), 9999999);
        Due.is("guarantee 0", new BondedStore().greatestValue(0, 0), Due.UNKNOWN);
    }

    private static void promise29AgreesWithEnter() {
        int[] rates = {1, 7, 100, 333, 999, 1000};
        int[] covers = {1, 3, 20, 99, 100};
        for (int cover : covers) {
            for (int rate : rates) {
                BondedStore store = Due.storeOf(1, 777);
                Due.is("setRules", store.setRules(cover, 20, 10), 20);
                Due.is("setRate", store.setRate(0, rate), 100);
                Due.is("enter", store.enter(0, 1, 3, 3210), 0);
                int greatest = store.greatestValue(0, 0);
                Due.is("the greatest", store.enter(0, 0, 1, greatest), 1);
                Due.is("undo", store.undo(), 5);
                if (greatest < 10000000) {
                    Due.refused("one more", store, store.enter(0, 0, 1, greatest + 1), 2);
                }
            }
        }
    }

    private static void promise30Account() {
        BondedStore store = Due.storeOf(2, 100);
        Due.is("account(-1)", store.account(-1), Due.BAD_VALUE);
        Due.is("account(7)", store.account(7), Due.BAD_VALUE);
        store.deposit(0, 300);
        store.deposit(1, 400);
        Due.is("enter", store.enter(0, 0, 10, 1000), 0);
        Due.is("enter", store.enter(1, 0, 10, 3000), 1);
        Due.is("release", store.release(0, 1), 10);
        Due.is("export", store.export(1, 3), 0);
        Due.is("destroy", store.destroy(1, 2), 60);
        long[] want = {400, 330, 10, 60, 0, 20, 700};
        for (int account = 0; account < want.length; account++) {
            Due.is("account(" + account + ")", store.account(account), want[account]);
        }
        Due.is("pass", store.pass(31), 90);
        Due.is("pass", store.pass(70), 240);
        Due.is("deposit", store.deposit(1, 200), 0);
        long[] then = {400, 0, 340, 60, 330, 20, 900};
        for (int account = 0; account < then.length; account++) {
            Due.is("then account(" + account + ")", store.account(account), then[account]);
        }
    }

    /** Every question and act that looks at all rows, when there is no row beyond them. */
    private static void allRowsInUse() {
        BondedStore store = Due.storeOf(5, PLENTY);
        for (int i = 0; i < 30; i++) {
            Due.is("enter", store.enter(i % 5, i % 6, 10, 1000), i);
        }
        for (int i = 0; i < 30; i++) {
            Due.is("export", store.export(29 - i, 9), i);
        }
        Due.is("lots in the store", store.owner(4, 5), 6);
        Due.is("use", store.owner(4, 3), 600);
        Due.is("count(4)", store.count(4), 30);
        Due.is("account(0)", store.account(0), 3000);
        Due.is("account(1)", store.account(1), 3000);
        Due.is("nextDeadline", store.nextDeadline(), 100);
        document(store, 29, "L29/4:1+9");
        Due.is("calledIn(30)", store.calledIn(30), 0);
        Due.is("calledIn(31)", store.calledIn(31), 2700);
        Due.is("greatestValue", store.greatestValue(4, 5), 10000000);
        Due.is("prove", store.prove(0), 90);
        Due.is("nextDeadline", store.nextDeadline(), 101);
        Due.is("pass", store.pass(31), 2610);
        Due.is("nextDeadline", store.nextDeadline(), 0);
        Due.is("calledIn(100)", store.calledIn(100), 300);
        Due.is("pass", store.pass(70), 300);
        Due.is("account(4)", store.account(4), 2910);
        Due.is("seized", store.count(5), 30);
        Due.is("nextDeadline", store.nextDeadline(), Due.NONE);
        Due.is("undo", store.undo(), 5);
        Due.is("lots in the store", store.owner(4, 5), 6);
        Due.is("keep", store.keep(0), 30);
        Due.is("restore", store.restore(0), 30);
        Due.is("release nothing", store.release(29, 1), Due.REFUSED);
        Due.is("reason", store.count(11), 3);
    }

    private static void promise31Count() {
        BondedStore store = Due.storeOf(3, PLENTY);
        Due.is("count(-1)", store.count(-1), Due.BAD_VALUE);
        Due.is("count(13)", store.count(13), Due.BAD_VALUE);
        Due.is("setTerms", store.setTerms(40, 15), 100);
        Due.is("setRules", store.setRules(55, 66, 77), 20);
        Due.is("enter", store.enter(0, 0, 10, 1000), 0);
        Due.is("enter", store.enter(0, 0, 10, 1000), 1);
        Due.is("export", store.export(0, 10), 0);
        Due.is("export", store.export(1, 1), 1);
        Due.is("pass", store.pass(10), 0);
        Due.is("export", store.export(1, 1), 2);
        Due.is("prove", store.prove(1), 10);
        Due.refused("prove again", store, store.prove(1), 6);
        int[] want = {10, 3, 2, 3, 2, 0, 40, 15, 55, 66, 77, 6, 6};
        for (int what = 0; what < want.length; what++) {
            Due.is("count(" + what + ")", store.count(what), want[what]);
        }
        Due.is("pass", store.pass(31), 200 - 10);
        int[] then = {41, 3, 2, 3, 0, 1, 40, 15, 55, 66, 77, 6, 6};
        for (int what = 0; what < then.length; what++) {
            Due.is("then count(" + what + ")", store.count(what), then[what]);
        }
        Due.is("undo", store.undo(), 5);
        Due.is("seized after undo", store.count(5), 0);
        Due.is("waiting after undo", store.count(4), 2);
        Due.is("states after undo", store.count(12), 5);
    }
}
