/** Promises 19 to 21: undo and snapshots. */
public final class HistoryTest {
    private HistoryTest() {
    }

    public static void main(String[] args) {
        promise19Undo();
        promise19WhatIsRecorded();
        promise19WhatComesBack();
        promise19RowsOfOtherLots();
        promise20Keep();
        promise21Restore();
        Due.end();
    }

    private static void promise19Undo() {
        BondedStore store = new BondedStore();
        Due.is("empty", store.undo(), Due.NONE);
        for (int i = 1; i <= 20; i++) {
            Due.is("setTerms", store.setTerms(i, 1), i == 1 ? 100 : i - 1);
            Due.is("states", store.count(12), Math.min(i, 6));
        }
        for (int i = 0; i < 3; i++) {
            Due.is("undo", store.undo(), 5 - i);
            Due.is("term", store.count(6), 19 - i);
        }
        Due.is("setTerms", store.setTerms(500, 1), 17);
        Due.is("undo", store.undo(), 3);
        Due.is("term", store.count(6), 17);
        for (int i = 0; i < 3; i++) {
            Due.is("undo", store.undo(), 2 - i);
            Due.is("term", store.count(6), 16 - i);
        }
        Due.is("undone all", store.undo(), Due.NONE);
        Due.is("the oldest were dropped", store.count(6), 14);
        Due.is("still none", store.undo(), Due.NONE);
    }

    private static void promise19WhatIsRecorded() {
        BondedStore store = new BondedStore();
        store.undo();
        store.type('a');
        store.clearText();
        store.runOrders();
        store.keep(0);
        store.keep(2);
        store.restore(1);
        store.restore(2);
        store.deposit(0, 1);
        store.setRate(6, 1);
        store.setTerms(0, 0);
        store.setRules(-1, 0, 0);
        store.pass(0);
        store.count(0);
        store.calledIn(5);
        store.nextDeadline();
        Due.is("no act so far", store.count(12), 0);
        store.addOwner();
        Due.refused("enter", store, store.enter(0, 0, 1, 10000), 2);
        store.greatestValue(0, 0);
        Due.is("one act so far", store.count(12), 1);
        Due.is("deposit", store.deposit(0, 1), 0);
        Due.is("two acts", store.count(12), 2);
        Due.is("the same again is an act too", store.setGuarantee(0, 0), 0);
        Due.is("three acts", store.count(12), 3);
        Due.is("restore", store.restore(0), 0);
        Due.is("four acts", store.count(12), 4);
        Due.is("undo", store.undo(), 3);
        Due.is("owners", store.count(1), 1);
    }

    /** Whatever an act changes is as it was before, and new rows do not show what was undone. */
    private static void promise19WhatComesBack() {
        BondedStore store = Due.storeOf(1, 100000000);
        Due.is("deposit", store.deposit(0, 1000), 0);
        Due.is("addOwner", store.addOwner(), 1);
        Due.is("deposit", store.deposit(1, 7), 0);
        Due.is("undo", store.undo(), 4);
        Due.is("undo", store.undo(), 3);
        Due.is("addOwner", store.addOwner(), 1);
        Due.is("a new owner's cash", store.owner(1, 0), 0);
        Due.is("enter", store.enter(0, 0, 100, 1000), 0);
        Due.is("sample", store.sample(0, 3), 1);
        Due.is("undo", store.undo(), 5);
        Due.is("undo", store.undo(), 4);
        Due.is("enter", store.enter(0, 0, 100, 1000), 0);
        int[] fresh = {0, 0, 100, 1000, 0, 100, 100, 100, 100, 0, 0, 0, 0};
        for (int what = 0; what < fresh.length; what++) {
            Due.is("lot(0, " + what + ")", store.lot(0, what), fresh[what]);
        }
        Due.is("cash", store.owner(0, 0), 1000);
        Due.is("export", store.export(0, 2), 0);
        Due.is("prove", store.prove(0), 2);
        Due.is("undo", store.undo(), 5);
        Due.is("undo", store.undo(), 4);
        Due.is("export", store.export(0, 3), 0);
        Due.is("a new export waits", store.exported(0, 4), 0);
        Due.refused("a refusal", store, store.release(0, 1000), 4);
        Due.is("undo", store.undo(), 4);
        Due.is("the reason stays", store.count(11), 4);
        Due.is("account(6)", store.account(6), 1000);
        Due.is("waiting exports", store.count(4), 0);
    }

    /** A row that another lot or export got in between is whole again in each state. */
    private static void promise19RowsOfOtherLots() {
        BondedStore store = Due.storeOf(2, 100000000);
        Due.is("keep the empty one", store.keep(0), 0);
        Due.is("enter", store.enter(1, 4, 70, 3000), 0);
        Due.is("enter", store.enter(1, 4, 70, 3000), 1);
        Due.is("export", store.export(1, 9), 0);
        Due.is("keep", store.keep(1), 2);
        Due.is("restore the empty one", store.restore(0), 0);
        Due.is("setTerms", store.setTerms(50, 20), 100);
        Due.is("pass", store.pass(3), 0);
        Due.is("enter", store.enter(0, 2, 7, 1000), 0);
        Due.is("export", store.export(0, 2), 0);
        int[] other = {0, 2, 7, 1000, 3, 53, 100, 5, 100, 0, 0, 0, 2};
        int[] otherExport = {0, 2, 28, 23, 0};
        checkRows(store, 0, other, otherExport);
        Due.is("restore", store.restore(1), 2);
        int[] first = {1, 4, 70, 3000, 0, 100, 300, 61, 300, 0, 0, 0, 9};
        int[] firstExport = {1, 9, 38, 30, 0};
        checkRows(store, 1, first, firstExport);
        int[] beside = {1, 4, 70, 3000, 0, 100, 300, 70, 300, 0, 0, 0, 0};
        checkRows(store, 0, beside, firstExport);
        Due.is("undo", store.undo(), 5);
        checkRows(store, 0, other, otherExport);
    }

    private static void checkRows(BondedStore store, int lot, int[] ofLot, int[] ofExport) {
        for (int what = 0; what < ofLot.length; what++) {
            Due.is("lot(" + lot + ", " + what + ")", store.lot(lot, what), ofLot[what]);
        }
        for (int what = 0; what < ofExport.length; what++) {
            Due.is("exported(0, " + what + ")", store.exported(0, what), ofExport[what]);
        }
    }

    private static void promise20Keep() {
        BondedStore store = Due.storeOf(1, 100000000);
        Due.is("keep(-1)", store.keep(-1), Due.UNKNOWN);
        Due.is("keep(2)", store.keep(2), Due.UNKNOWN);
        Due.is("keep(0)", store.keep(0), 0);
        Due.is("enter", store.enter(0, 0, 10, 10), 0);
        Due.is("keep(1)", store.keep(1), 1);
        Due.is("no act", store.count(12), 3);
        Due.is("enter", store.enter(0, 0, 10, 10), 1);
        Due.is("restore(0)", store.restore(0), 0);
        Due.is("restore(1)", store.restore(1), 1);
        Due.is("enter", store.enter(0, 0, 10, 10), 1);
        Due.is("keep(0) in its place", store.keep(0), 2);
        Due.is("pass", store.pass(9), 0);
        Due.is("restore(0)", store.restore(0), 2);
        Due.is("day", store.count(0), 0);
        Due.is("undo", store.undo(), 5);
        Due.is("undo", store.undo(), 4);
        Due.is("undo", store.undo(), 3);
        Due.is("lots", store.count(2), 1);
        Due.is("undo leaves the slots", store.restore(0), 2);
    }

    private static void promise21Restore() {
        BondedStore store = Due.storeOf(2, 100000000);
        Due.is("restore(-1)", store.restore(-1), Due.UNKNOWN);
        Due.is("restore(2)", store.restore(2), Due.UNKNOWN);
        Due.is("restore(0)", store.restore(0), Due.NONE);
        Due.is("restore(1)", store.restore(1), Due.NONE);
        store.deposit(0, 500);
        Due.is("enter", store.enter(0, 0, 7, 1000), 0);
        Due.is("keep(1)", store.keep(1), 1);
        Due.is("still empty", store.restore(0), Due.NONE);
        Due.is("release", store.release(0, 2), 28);
        Due.is("setRate", store.setRate(0, 7), 100);
        Due.is("setTerms", store.setTerms(9, 9), 100);
        Due.is("setRules", store.setRules(9, 9, 9), 20);
        Due.is("export", store.export(0, 2), 0);
        Due.is("give", store.give(0, 1), 0);
        Due.is("pass", store.pass(10), 29);
        Due.refused("prove", store, store.prove(0), 6);
        Due.is("restore(1)", store.restore(1), 1);
        int[] counts = {0, 2, 1, 0, 0, 0, 100, 30, 20, 20, 10, 6, 6};
        for (int what = 0; what < counts.length; what++) {
            Due.is("count(" + what + ")", store.count(what), counts[what]);
        }
        Due.is("rate", store.rate(0), 100);
        Due.is("cash", store.owner(0, 0), 500);
        Due.is("in the store", store.lot(0, 7), 7);
        Due.is("owner", store.lot(0, 0), 0);
        Due.is("called", store.account(4), 0);
        Due.is("undo of restore", store.undo(), 5);
        Due.is("day", store.count(0), 10);
        Due.is("owner", store.lot(0, 0), 1);
        Due.is("lost", store.exported(0, 4), 2);
        Due.is("it stays in the slot", store.restore(1), 1);
        Due.is("enter", store.enter(0, 0, 7, 1000), 1);
        Due.is("what comes later is not in the slot", store.restore(1), 1);
        Due.is("lots", store.count(2), 1);
    }
}
