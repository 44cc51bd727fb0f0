/** Promises 8 to 15, 23 and 24: what is done with lots, and what they and the exports show. */
public final class LotsTest {
    private static final int PLENTY = 100000000;

    private LotsTest() {
    }

    public static void main(String[] args) {
        promise8Enter();
        promise8Refusals();
        promise9Release();
        promise10Sample();
        promise10SampleInTwoParts();
        promise11Export();
        promise12Prove();
        promise13Destroy();
        promise14Give();
        promise14Refusals();
        promise15Pass();
        promise15CallsFromGuaranteeFirst();
        promise23Lot();
        promise24Exported();
        Due.end();
    }

    private static void promise8Enter() {
        BondedStore store = Due.storeOf(1, PLENTY);
        Due.is("owner -1", store.enter(-1, 0, 1, 0), Due.UNKNOWN);
        Due.is("owner 1", store.enter(1, 0, 1, 0), Due.UNKNOWN);
        Due.is("kind -1", store.enter(0, -1, 1, 0), Due.UNKNOWN);
        Due.is("kind 6", store.enter(0, 6, 1, 0), Due.UNKNOWN);
        Due.is("kind 6 before the quantity", store.enter(0, 6, 0, -1), Due.UNKNOWN);
        Due.is("quantity 0", store.enter(0, 0, 0, 0), Due.BAD_VALUE);
        Due.is("quantity 1000001", store.enter(0, 0, 1000001, 0), Due.BAD_VALUE);
        Due.is("value -1", store.enter(0, 0, 1, -1), Due.BAD_VALUE);
        Due.is("value 10000001", store.enter(0, 0, 1, 10000001), Due.BAD_VALUE);
        Due.is("nothing entered", store.count(2), 0);
        Due.is("setRate", store.setRate(3, 1000), 100);
        Due.is("greatest", store.enter(0, 3, 1000000, 10000000), 0);
        Due.is("its duty", store.lot(0, 6), 10000000);
        Due.is("least", store.enter(0, 0, 1, 0), 1);
        Due.is("its duty", store.lot(1, 6), 0);
        Due.is("rounded down", store.enter(0, 0, 1, 99), 2);
        Due.is("its duty", store.lot(2, 6), 9);
        Due.is("undo()", store.undo(), 5);
        Due.is("lots after undo", store.count(2), 2);
        Due.is("enter again", store.enter(0, 1, 4, 70), 2);
        int[] fresh = {0, 1, 4, 70, 0, 100, 7, 4, 7, 0, 0, 0, 0};
        for (int what = 0; what < fresh.length; what++) {
            Due.is("fresh lot(2, " + what + ")", store.lot(2, what), fresh[what]);
        }
    }

    private static void promise8Refusals() {
        BondedStore store = Due.storeOf(2, 20);
        Due.is("enter", store.enter(0, 0, 1, 1049), 0);
        Due.refused("use of 105 at 20", store, store.enter(0, 0, 1, 10), 2);
        Due.is("use of 104 at 20", store.enter(0, 0, 1, 9), 1);
        Due.is("pass(100)", store.pass(100), 0);
        Due.is("pass(1)", store.pass(1), 104);
        Due.refused("with a debt", store, store.enter(0, 0, 1, 10), 1);
        for (int i = 2; i < 30; i++) {
            Due.is("enter", store.enter(1, 0, 1, 0), i);
        }
        Due.refused("31st with a debt", store, store.enter(0, 0, 1, 10), 1);
        Due.refused("31st", store, store.enter(1, 0, 1, 10000000), 5);
        Due.is("lots then", store.count(2), 30);

        BondedStore cent = Due.storeOf(2, 20);
        Due.is("enter", cent.enter(0, 0, 1, 219), 0);
        Due.is("enter", cent.enter(1, 0, 1, 10), 1);
        Due.is("pass(100)", cent.pass(100), 0);
        Due.is("pass(1)", cent.pass(1), 22);
        Due.refused("a debt of one cent", cent, cent.enter(0, 0, 1, 0), 1);
        Due.is("enter", cent.enter(1, 0, 1, 10), 2);
        Due.refused("release", cent, cent.release(2, 1), 3);
        Due.refused("a debt of one cent", cent, cent.give(2, 0), 1);
        Due.is("deposit(0, 1)", cent.deposit(0, 1), 0);
        Due.is("give without a debt", cent.give(2, 0), 1);
        Due.is("lots with one unit", cent.owner(0, 5), 1);

        BondedStore bare = Due.storeOf(1, 100);
        Due.is("enter", bare.enter(0, 0, 1, 1000), 0);
        Due.is("setRules", bare.setRules(100, 20, 10), 20);
        Due.is("exactly covered", bare.enter(0, 0, 1, 9), 1);
        Due.refused("not covered", bare, bare.enter(0, 0, 1, 10), 2);
        Due.is("count(12) after a refusal", bare.count(12), 5);

        BondedStore worse = Due.storeOf(1, 20);
        Due.is("enter", worse.enter(0, 0, 1, 1000), 0);
        Due.is("setRules", worse.setRules(21, 20, 10), 20);
        Due.refused("value 0 that makes nothing worse", worse, worse.enter(0, 0, 1, 0), 2);
    }

    private static void checkTaking(BondedStore store, String name, int unknown, int negative, int zero, int most) {
        Due.is(name + " of an unknown lot", unknown, Due.UNKNOWN);
        Due.is(name + " of lot -1", negative, Due.UNKNOWN);
        Due.is(name + " of 0", zero, Due.BAD_VALUE);
        Due.is(name + " of 1000001", most, Due.BAD_VALUE);
        Due.is(name + " changes no reason", store.count(11), 0);
    }

    private static void promise9Release() {
        BondedStore store = Due.storeOf(1, PLENTY);
        Due.is("enter", store.enter(0, 0, 7, 1000), 0);
        checkTaking(store, "release", store.release(1, 0), store.release(-1, 1), store.release(0, 0),
                store.release(0, 1000001));
        Due.refused("8 of 7", store, store.release(0, 8), 4);
        Due.refused("no cash", store, store.release(0, 1), 3);
        store.deposit(0, 14);
        Due.is("exact cash", store.release(0, 1), 14);
        Due.is("cash then", store.owner(0, 0), 0);
        store.deposit(0, 85);
        Due.refused("one cent too little", store, store.release(0, 6), 3);
        Due.refused("too many before too little", store, store.release(0, 7), 4);
        store.deposit(0, 1);
        Due.is("second part", store.release(0, 1), 14);
        Due.is("third part", store.release(0, 2), 29);
        Due.is("last part", store.release(0, 3), 43);
        Due.is("paid", store.lot(0, 9), 100);
        Due.is("suspended", store.lot(0, 8), 0);
        Due.is("in the store", store.lot(0, 7), 0);
        Due.is("cash at last", store.owner(0, 0), 0);
        Due.refused("none left", store, store.release(0, 1), 4);
        Due.is("undo()", store.undo(), 5);
        Due.is("in the store after undo", store.lot(0, 7), 3);
        Due.is("cash after undo", store.owner(0, 0), 43);
        Due.is("paid after undo", store.lot(0, 9), 57);

        BondedStore wide = Due.storeOf(1, PLENTY);
        wide.setRate(0, 1000);
        Due.is("enter", wide.enter(0, 0, 1000000, 9999999), 0);
        wide.deposit(0, 10000000);
        Due.is("no overflow", wide.release(0, 999999), 9999989);
        Due.is("the last unit", wide.release(0, 1), 10);
        Due.is("no cash needed for nothing", wide.enter(0, 1, 5, 9), 1);
        Due.is("duty 0", wide.release(1, 5), 0);
    }

    private static void promise10Sample() {
        BondedStore store = Due.storeOf(1, PLENTY);
        Due.is("enter", store.enter(0, 0, 100, 9990), 0);
        checkTaking(store, "sample", store.sample(1, 0), store.sample(-1, 1), store.sample(0, 0),
                store.sample(0, 1000001));
        Due.refused("101 of 100", store, store.sample(0, 101), 4);
        Due.is("free of 2", store.sample(0, 1), 0);
        Due.is("discharged", store.lot(0, 10), 9);
        Due.is("free of 1", store.sample(0, 1), 0);
        Due.is("discharged", store.lot(0, 10), 19);
        Due.refused("third is not free", store, store.sample(0, 1), 3);
        store.deposit(0, 10);
        Due.is("third is paid", store.sample(0, 1), 10);
        Due.is("samples", store.lot(0, 11), 3);
        Due.is("paid", store.lot(0, 9), 10);
        Due.is("cash", store.owner(0, 0), 0);
        Due.is("setRules", store.setRules(20, 49, 10), 20);
        Due.is("one is free again", store.sample(0, 1), 0);
        Due.refused("but not another", store, store.sample(0, 1), 3);
        Due.is("setRules", store.setRules(20, 10, 10), 20);
        Due.refused("fewer allowed than taken", store, store.sample(0, 2), 3);
        Due.is("samples", store.lot(0, 11), 4);
        Due.is("in the store", store.lot(0, 7), 96);
        Due.is("other units count nothing", store.export(0, 90), 0);
        Due.is("setRules", store.setRules(20, 50, 10), 20);
        Due.is("a fifth is free", store.sample(0, 1), 0);
        Due.is("undo()", store.undo(), 5);
        Due.is("samples after undo", store.lot(0, 11), 4);
        Due.is("in the store after undo", store.lot(0, 7), 6);
    }

    private static void promise10SampleInTwoParts() {
        BondedStore store = Due.storeOf(1, PLENTY);
        Due.is("enter", store.enter(0, 0, 7, 1000), 0);
        store.deposit(0, 43);
        Due.is("setRules", store.setRules(20, 430, 10), 20);
        Due.is("release", store.release(0, 1), 14);
        Due.is("setRules", store.setRules(20, 300, 10), 20);
        Due.is("two free and two paid", store.sample(0, 4), 29);
        Due.is("discharged", store.lot(0, 10), 28);
        Due.is("paid", store.lot(0, 9), 43);
        Due.is("samples", store.lot(0, 11), 4);
        Due.is("suspended", store.lot(0, 8), 29);
        Due.is("cash", store.owner(0, 0), 0);
        Due.is("setRules", store.setRules(20, 1000, 10), 20);
        Due.is("all free", store.sample(0, 2), 0);
        Due.is("discharged", store.lot(0, 10), 57);

        BondedStore poor = Due.storeOf(1, PLENTY);
        Due.is("enter", poor.enter(0, 0, 7, 1000), 0);
        Due.is("setRules", poor.setRules(20, 300, 10), 20);
        Due.refused("nothing is taken if a part can't be paid", poor, poor.sample(0, 3), 3);
        Due.is("samples", poor.lot(0, 11), 0);
        Due.is("discharged", poor.lot(0, 10), 0);
        Due.is("in the store", poor.lot(0, 7), 7);

        BondedStore wide = Due.storeOf(1, PLENTY);
        Due.is("setRules", wide.setRules(20, 1000, 10), 20);
        Due.is("enter", wide.enter(0, 0, 1000000, 10000000), 0);
        Due.is("all of a million", wide.sample(0, 1000000), 0);
        Due.is("discharged", wide.lot(0, 10), 1000000);
    }

    private static void promise11Export() {
        BondedStore store = Due.storeOf(1, PLENTY);
        Due.is("enter", store.enter(0, 0, 70, 1000), 0);
        checkTaking(store, "export", store.export(1, 0), store.export(-1, 1), store.export(0, 0),
                store.export(0, 1000001));
        Due.refused("71 of 70", store, store.export(0, 71), 4);
        Due.is("pass(4)", store.pass(4), 0);
        Due.is("export", store.export(0, 3), 0);
        Due.is("its duty", store.exported(0, 2), 4);
        Due.is("its deadline", store.exported(0, 3), 34);
        Due.is("its state", store.exported(0, 4), 0);
        Due.is("still suspended", store.lot(0, 8), 100);
        Due.is("still in use", store.owner(0, 3), 100);
        Due.is("in the store", store.lot(0, 7), 67);
        Due.is("waiting units", store.lot(0, 12), 3);
        Due.is("second export", store.export(0, 1), 1);
        Due.is("its duty", store.exported(1, 2), 1);
        Due.is("undo()", store.undo(), 5);
        Due.is("exports after undo", store.count(3), 1);
        for (int i = 1; i < 30; i++) {
            Due.is("export", store.export(0, 1), i);
            Due.isTrue("prove", store.prove(i) >= 0);
        }
        Due.refused("39 of 38 ahead of the 31st", store, store.export(0, 39), 4);
        Due.refused("the 31st", store, store.export(0, 38), 5);
        Due.is("exports", store.count(3), 30);
        Due.is("waiting exports", store.count(4), 1);
        Due.is("in the store", store.lot(0, 7), 38);
    }

    private static void promise12Prove() {
        BondedStore store = Due.storeOf(1, PLENTY);
        Due.is("prove(0)", store.prove(0), Due.UNKNOWN);
        Due.is("enter", store.enter(0, 0, 7, 1000), 0);
        Due.is("export", store.export(0, 2), 0);
        Due.is("export", store.export(0, 3), 1);
        Due.is("prove(-1)", store.prove(-1), Due.UNKNOWN);
        Due.is("prove(2)", store.prove(2), Due.UNKNOWN);
        Due.is("prove(1)", store.prove(1), 43);
        Due.is("discharged", store.lot(0, 10), 43);
        Due.is("suspended", store.lot(0, 8), 57);
        Due.is("waiting units", store.lot(0, 12), 2);
        Due.is("its state", store.exported(1, 4), 1);
        Due.refused("again", store, store.prove(1), 6);
        Due.is("pass(30)", store.pass(30), 0);
        Due.is("on the last day", store.prove(0), 28);
        Due.is("undo()", store.undo(), 5);
        Due.is("state after undo", store.exported(0, 4), 0);
        Due.is("pass(1)", store.pass(1), 28);
        Due.refused("a lost one", store, store.prove(0), 6);
        Due.is("its state", store.exported(0, 4), 2);
        Due.is("discharged", store.lot(0, 10), 43);
        Due.is("paid", store.lot(0, 9), 28);
    }

    private static void promise13Destroy() {
        BondedStore store = Due.storeOf(1, PLENTY);
        Due.is("enter", store.enter(0, 0, 7, 1000), 0);
        checkTaking(store, "destroy", store.destroy(1, 0), store.destroy(-1, 1), store.destroy(0, 0),
                store.destroy(0, 1000001));
        Due.refused("8 of 7", store, store.destroy(0, 8), 4);
        Due.refused("no cash", store, store.destroy(0, 1), 3);
        store.deposit(0, 29);
        Due.refused("one cent too little", store, store.destroy(0, 3), 3);
        store.deposit(0, 1);
        Due.is("exact cash", store.destroy(0, 3), 42);
        Due.is("cash", store.owner(0, 0), 0);
        Due.is("fees", store.account(5), 30);
        Due.is("discharged", store.lot(0, 10), 42);
        Due.is("paid", store.lot(0, 9), 0);
        Due.is("in the store", store.lot(0, 7), 4);
        Due.is("setRules", store.setRules(20, 20, 0), 20);
        Due.is("without a fee", store.destroy(0, 4), 58);
        Due.is("fees", store.account(5), 30);
        Due.is("undo()", store.undo(), 5);
        Due.is("undo()", store.undo(), 4);
        Due.is("undo()", store.undo(), 3);
        Due.is("fees after undo", store.account(5), 0);
        Due.is("cash after undo", store.owner(0, 0), 30);

        BondedStore wide = Due.storeOf(1, PLENTY);
        Due.is("setRules", wide.setRules(20, 20, 1000), 20);
        for (int i = 0; i < 4; i++) {
            Due.is("enter", wide.enter(0, 0, 1000000, 100), i);
        }
        for (int i = 0; i < 300; i++) {
            wide.deposit(0, 10000000);
        }
        for (int i = 0; i < 3; i++) {
            Due.is("a million", wide.destroy(i, 1000000), 10);
        }
        Due.is("cash", wide.owner(0, 0), 0);
        Due.is("fees beyond int", wide.account(5), 3000000000L);
        Due.refused("dear", wide, wide.destroy(3, 1000000), 3);
    }

    private static void promise14Give() {
        BondedStore store = Due.storeOf(3, PLENTY);
        Due.is("enter", store.enter(0, 0, 10, 1000), 0);
        Due.is("export", store.export(0, 4), 0);
        Due.is("lot -1", store.give(-1, 1), Due.UNKNOWN);
        Due.is("lot 1", store.give(1, 1), Due.UNKNOWN);
        Due.is("owner -1", store.give(0, -1), Due.UNKNOWN);
        Due.is("owner 3", store.give(0, 3), Due.UNKNOWN);
        Due.is("the same", store.give(0, 0), Due.BAD_VALUE);
        Due.is("give(0, 2)", store.give(0, 2), 0);
        Due.is("its owner", store.lot(0, 0), 2);
        Due.is("use of the old owner", store.owner(0, 3), 0);
        Due.is("use of the new owner", store.owner(2, 3), 100);
        Due.is("lots of the new owner", store.owner(2, 5), 1);
        Due.is("give(0, 1)", store.give(0, 1), 2);
        Due.is("pass(31)", store.pass(31), 40);
        Due.is("called of the third owner", store.owner(1, 6), 40);
        Due.is("called of the second owner", store.owner(2, 6), 0);
        Due.is("pass(70)", store.pass(70), 60);
        Due.is("called of the third owner", store.owner(1, 6), 100);
        Due.is("an empty lot", store.give(0, 0), 1);
        Due.is("what was called stays", store.owner(1, 6), 100);
        Due.is("nothing was called of the first", store.owner(0, 6), 0);
        Due.is("undo()", store.undo(), 5);
        Due.is("owner after undo", store.lot(0, 0), 1);
    }

    private static void promise14Refusals() {
        BondedStore store = Due.storeOf(2, 20);
        Due.is("enter", store.enter(0, 0, 10, 1000), 0);
        Due.is("enter", store.enter(1, 0, 10, 49), 1);
        Due.is("exactly covered", store.give(0, 1), 0);
        Due.is("back", store.give(0, 0), 1);
        Due.is("enter", store.enter(1, 0, 10, 10), 2);
        Due.refused("not covered", store, store.give(0, 1), 2);
        Due.is("its owner", store.lot(0, 0), 0);
        Due.is("export", store.export(0, 10), 0);
        Due.refused("waiting exports count", store, store.give(0, 1), 2);
        Due.is("prove", store.prove(0), 100);
        Due.is("nothing suspended", store.give(0, 1), 0);
        Due.is("setRules", store.setRules(100, 20, 10), 20);
        Due.is("setGuarantee", store.setGuarantee(1, 5), 20);
        Due.is("pass(100)", store.pass(100), 0);
        Due.is("setRules", store.setRules(20, 20, 10), 100);
        Due.is("enter", store.enter(0, 0, 1, 500), 3);
        Due.is("pass(1)", store.pass(1), 5);
        Due.is("enter", store.enter(1, 0, 1, 40), 4);
        Due.is("pass(100)", store.pass(100), 50);
        Due.is("pass(1)", store.pass(1), 4);
        Due.is("debt", store.owner(1, 2), 4);
        Due.refused("a debt goes first", store, store.give(3, 1), 1);
        Due.is("deposit", store.deposit(1, 4), 0);
        Due.is("without the debt", store.give(3, 1), 0);
        Due.is("enter", store.enter(1, 0, 1, 40), 5);
        Due.is("setRules", store.setRules(100, 20, 10), 20);
        Due.is("deposit", store.deposit(0, 30), 0);
        Due.is("enter", store.enter(0, 0, 1, 0), 6);
        Due.refused("a lot without a duty makes nothing worse", store, store.give(6, 1), 2);

        BondedStore both = Due.storeOf(2, 20);
        Due.is("setTerms", both.setTerms(10, 10), 100);
        Due.is("enter", both.enter(1, 0, 1, 1000), 0);
        Due.is("setTerms", both.setTerms(100, 10), 10);
        Due.is("enter", both.enter(0, 0, 1, 1000), 1);
        Due.is("pass(11)", both.pass(11), 100);
        Due.refused("the debt is the first reason", both, both.give(1, 1), 1);
        Due.is("deposit", both.deposit(1, 80), 0);
        Due.refused("the use is the second", both, both.give(1, 1), 2);
    }

    private static void promise15Pass() {
        BondedStore store = Due.storeOf(2, 1000);
        Due.is("pass(0)", store.pass(0), Due.BAD_VALUE);
        Due.is("pass(-1)", store.pass(-1), Due.BAD_VALUE);
        Due.is("pass(101)", store.pass(101), Due.BAD_VALUE);
        Due.is("setTerms", store.setTerms(10, 12), 100);
        Due.is("enter", store.enter(0, 0, 7, 1000), 0);
        Due.is("enter", store.enter(1, 0, 7, 990), 1);
        Due.is("export", store.export(0, 2), 0);
        Due.is("export", store.export(1, 7), 1);
        Due.is("pass(10)", store.pass(10), 0);
        Due.is("day", store.count(0), 10);
        Due.is("in the store on its deadline", store.lot(0, 7), 5);
        Due.is("pass(1)", store.pass(1), 72);
        Due.is("in the store then", store.lot(0, 7), 0);
        Due.is("waits on", store.exported(0, 4), 0);
        Due.is("seized lots", store.count(5), 1);
        Due.is("an empty lot is not seized", store.lot(1, 9), 0);
        Due.is("suspended", store.lot(0, 8), 28);
        Due.is("guarantee", store.owner(0, 1), 928);
        Due.is("pass(1)", store.pass(1), 0);
        Due.is("pass(1)", store.pass(1), 127);
        Due.is("lost", store.exported(0, 4), 2);
        Due.is("lost", store.exported(1, 4), 2);
        Due.is("paid", store.lot(0, 9), 100);
        Due.is("paid", store.lot(1, 9), 99);
        Due.is("called of owner 0", store.owner(0, 6), 100);
        Due.is("called of owner 1", store.owner(1, 6), 99);
        Due.is("all called", store.account(4), 199);
        Due.is("nothing is called twice", store.pass(100), 0);
        Due.is("day", store.count(0), 113);
        Due.is("undo()", store.undo(), 5);
        Due.is("undo()", store.undo(), 4);
        Due.is("waits again", store.exported(1, 4), 0);
        Due.is("day after undo", store.count(0), 12);
        Due.is("guarantee after undo", store.owner(0, 1), 928);
        Due.is("undo()", store.undo(), 3);
        Due.is("undo()", store.undo(), 2);
        Due.is("not seized after undo", store.count(5), 0);
        Due.is("both in one call", store.pass(3), 199);
    }

    private static void promise15CallsFromGuaranteeFirst() {
        BondedStore store = Due.storeOf(1, 70);
        store.deposit(0, 500);
        Due.is("enter", store.enter(0, 0, 1, 400), 0);
        Due.is("enter", store.enter(0, 0, 1, 400), 1);
        Due.is("enter", store.enter(0, 0, 1, 400), 2);
        Due.is("setTerms", store.setTerms(10, 10), 100);
        Due.is("export", store.export(2, 1), 0);
        Due.is("pass(11)", store.pass(11), 40);
        Due.is("guarantee", store.owner(0, 1), 30);
        Due.is("debt", store.owner(0, 2), 0);
        Due.is("pass(90)", store.pass(90), 80);
        Due.is("guarantee", store.owner(0, 1), 0);
        Due.is("debt", store.owner(0, 2), 50);
        Due.is("the cash is not touched", store.owner(0, 0), 500);
        Due.is("called", store.owner(0, 6), 120);
        Due.is("seized", store.count(5), 2);
    }

    private static void promise23Lot() {
        BondedStore store = Due.storeOf(2, PLENTY);
        Due.is("setRate", store.setRate(4, 333), 100);
        Due.is("setRules", store.setRules(20, 100, 1), 20);
        Due.is("pass(5)", store.pass(5), 0);
        Due.is("lot(0, 0)", store.lot(0, 0), Due.UNKNOWN);
        Due.is("enter", store.enter(1, 4, 20, 1000), 0);
        Due.is("lot(-1, 0)", store.lot(-1, 0), Due.UNKNOWN);
        Due.is("lot(1, 13)", store.lot(1, 13), Due.UNKNOWN);
        Due.is("lot(0, -1)", store.lot(0, -1), Due.BAD_VALUE);
        Due.is("lot(0, 13)", store.lot(0, 13), Due.BAD_VALUE);
        store.deposit(1, 1000);
        Due.is("release", store.release(0, 3), 49);
        Due.is("sample", store.sample(0, 4), 33);
        Due.is("export", store.export(0, 2), 0);
        Due.is("export", store.export(0, 1), 1);
        Due.is("prove", store.prove(1), 17);
        Due.is("destroy", store.destroy(0, 5), 83);
        // Of 333: 49 released, 34 free and 33 paid samples, 33 and 17 exported, 83 destroyed.
        int[] want = {1, 4, 20, 1000, 5, 105, 333, 5, 117, 82, 134, 4, 2};
        for (int what = 0; what < want.length; what++) {
            Due.is("lot(0, " + what + ")", store.lot(0, what), want[what]);
        }
    }

    private static void promise24Exported() {
        BondedStore store = Due.storeOf(1, PLENTY);
        Due.is("exported(0, 0)", store.exported(0, 0), Due.UNKNOWN);
        Due.is("enter", store.enter(0, 0, 20, 1000), 0);
        Due.is("enter", store.enter(0, 0, 7, 1000), 1);
        Due.is("pass(3)", store.pass(3), 0);
        Due.is("export", store.export(1, 3), 0);
        Due.is("setTerms", store.setTerms(100, 5), 100);
        Due.is("export", store.export(1, 4), 1);
        Due.is("export", store.export(0, 4), 2);
        Due.is("exported(-1, 0)", store.exported(-1, 0), Due.UNKNOWN);
        Due.is("exported(3, 5)", store.exported(3, 5), Due.UNKNOWN);
        Due.is("exported(0, -1)", store.exported(0, -1), Due.BAD_VALUE);
        Due.is("exported(0, 5)", store.exported(0, 5), Due.BAD_VALUE);
        Due.is("prove", store.prove(2), 20);
        Due.is("pass(6)", store.pass(6), 58);
        int[][] want = {{1, 3, 42, 33, 0}, {1, 4, 58, 8, 2}, {0, 4, 20, 8, 1}};
        for (int i = 0; i < want.length; i++) {
            for (int what = 0; what < 5; what++) {
                Due.is("exported(" + i + ", " + what + ")", store.exported(i, what), want[i][what]);
            }
        }
    }
}
