/** Promises 1 to 7, 22 and 32: a new object, owners and settings. */
public final class OwnersTest {
    private OwnersTest() {
    }

    public static void main(String[] args) {
        promise1NewObject();
        promise2AddOwner();
        promise3Deposit();
        promise4SetGuarantee();
        promise5SetRate();
        promise6SetTerms();
        promise7SetRules();
        promise22Owner();
        promise32Rate();
        Due.end();
    }

    private static void promise1NewObject() {
        BondedStore store = new BondedStore();
        int[] counts = {0, 0, 0, 0, 0, 0, 100, 30, 20, 20, 10, 0, 0};
        for (int what = 0; what < counts.length; what++) {
            Due.is("new count(" + what + ")", store.count(what), counts[what]);
        }
        for (int account = 0; account <= 6; account++) {
            Due.is("new account(" + account + ")", store.account(account), 0);
        }
        for (int kind = 0; kind <= 5; kind++) {
            Due.is("new rate(" + kind + ")", store.rate(kind), 100);
        }
        Due.is("new owner(0, 0)", store.owner(0, 0), Due.UNKNOWN);
        Due.is("new lot(0, 0)", store.lot(0, 0), Due.UNKNOWN);
        Due.is("new exported(0, 0)", store.exported(0, 0), Due.UNKNOWN);
        Due.is("new undo()", store.undo(), Due.NONE);
        Due.is("new restore(0)", store.restore(0), Due.NONE);
        Due.is("new restore(1)", store.restore(1), Due.NONE);
        Due.is("new clearText()", store.clearText(), 0);
        Due.is("new nextDeadline()", store.nextDeadline(), Due.NONE);
        BondedStore other = new BondedStore();
        store.addOwner();
        Due.is("another object's owners", other.count(1), 0);
    }

    private static void promise2AddOwner() {
        BondedStore store = new BondedStore();
        for (int i = 0; i < 5; i++) {
            Due.is("addOwner()", store.addOwner(), i);
            Due.is("count(1)", store.count(1), i + 1);
            Due.is("count(12)", store.count(12), i + 1);
        }
        Due.is("addOwner() with 5", store.addOwner(), Due.FULL);
        Due.is("count(1) when full", store.count(1), 5);
        Due.is("count(12) when full", store.count(12), 5);
        Due.is("undo()", store.undo(), 4);
        Due.is("count(1) after undo", store.count(1), 4);
        Due.is("addOwner() again", store.addOwner(), 4);
    }

    private static void promise3Deposit() {
        BondedStore store = Due.storeOf(2, 1000);
        Due.is("deposit(2, 1)", store.deposit(2, 1), Due.UNKNOWN);
        Due.is("deposit(-1, 1)", store.deposit(-1, 1), Due.UNKNOWN);
        Due.is("deposit(2, 0)", store.deposit(2, 0), Due.UNKNOWN);
        Due.is("deposit(0, 0)", store.deposit(0, 0), Due.BAD_VALUE);
        Due.is("deposit(0, 10000001)", store.deposit(0, 10000001), Due.BAD_VALUE);
        Due.is("deposit(0, MIN)", store.deposit(0, Integer.MIN_VALUE), Due.BAD_VALUE);
        Due.is("deposit(0, 1)", store.deposit(0, 1), 0);
        Due.is("deposit(0, 10000000)", store.deposit(0, 10000000), 0);
        Due.is("cash", store.owner(0, 0), 10000001);
        Due.is("account(6)", store.account(6), 10000001);

        Due.is("enter", store.enter(1, 0, 10, 30000), 0);
        Due.is("pass(100)", store.pass(100), 0);
        Due.is("pass(1)", store.pass(1), 3000);
        Due.is("debt", store.owner(1, 2), 2000);
        Due.is("deposit of a part", store.deposit(1, 1500), 500);
        Due.is("cash with debt", store.owner(1, 0), 0);
        Due.is("deposit of the rest", store.deposit(1, 500), 0);
        Due.is("cash after the debt", store.owner(1, 0), 0);
        Due.is("deposit beyond", store.deposit(1, 7), 0);
        Due.is("cash beyond the debt", store.owner(1, 0), 7);
        Due.is("account(6) with what paid debts", store.account(6), 10002008);
        Due.is("undo()", store.undo(), 5);
        Due.is("cash after undo", store.owner(1, 0), 0);
        Due.is("undo()", store.undo(), 4);
        Due.is("debt after undo", store.owner(1, 2), 500);
        Due.is("deposit more than the debt", store.deposit(1, 800), 0);
        Due.is("cash then", store.owner(1, 0), 300);

        BondedStore rich = Due.storeOf(1, 0);
        for (int i = 0; i < 300; i++) {
            rich.deposit(0, 10000000);
        }
        Due.is("cash beyond int", rich.owner(0, 0), 3000000000L);
        Due.is("account(6) beyond int", rich.account(6), 3000000000L);
    }

    private static void promise4SetGuarantee() {
        BondedStore store = new BondedStore();
        Due.is("setGuarantee(0, 1)", store.setGuarantee(0, 1), Due.UNKNOWN);
        store.addOwner();
        Due.is("setGuarantee(-1, 1)", store.setGuarantee(-1, 1), Due.UNKNOWN);
        Due.is("setGuarantee(1, -1)", store.setGuarantee(1, -1), Due.UNKNOWN);
        Due.is("setGuarantee(0, -1)", store.setGuarantee(0, -1), Due.BAD_VALUE);
        Due.is("setGuarantee(0, 100000001)", store.setGuarantee(0, 100000001), Due.BAD_VALUE);
        Due.is("setGuarantee(0, 100000000)", store.setGuarantee(0, 100000000), 0);
        Due.is("setGuarantee(0, 200)", store.setGuarantee(0, 200), 100000000);
        Due.is("enter", store.enter(0, 0, 10, 10000), 0);
        Due.refused("setGuarantee(0, 199)", store, store.setGuarantee(0, 199), 2);
        Due.is("guarantee stays", store.owner(0, 1), 200);
        Due.is("setGuarantee(0, 200)", store.setGuarantee(0, 200), 200);
        Due.is("setRules(19, ..)", store.setRules(19, 20, 10), 20);
        Due.is("setGuarantee(0, 190)", store.setGuarantee(0, 190), 200);
        Due.is("count(12)", store.count(12), 6);
        Due.is("setRules(100, ..)", store.setRules(100, 20, 10), 19);
        Due.refused("a better one that covers too little", store, store.setGuarantee(0, 999), 2);
        Due.is("setGuarantee(0, 1000)", store.setGuarantee(0, 1000), 190);
        Due.is("undo()", store.undo(), 5);
        Due.is("guarantee after undo", store.owner(0, 1), 190);

        BondedStore rounded = Due.storeOf(1, 1);
        Due.is("use of 9 at 20 of 100 is 1", rounded.enter(0, 0, 1, 90), 0);
        Due.refused("setGuarantee(0, 0)", rounded, rounded.setGuarantee(0, 0), 2);
        Due.is("setRules(11, ..)", rounded.setRules(11, 20, 10), 20);
        Due.is("use of 9 at 11 of 100 is 0", rounded.setGuarantee(0, 0), 1);
    }

    private static void promise5SetRate() {
        BondedStore store = Due.storeOf(1, 100000000);
        Due.is("setRate(-1, 5)", store.setRate(-1, 5), Due.UNKNOWN);
        Due.is("setRate(6, 5)", store.setRate(6, 5), Due.UNKNOWN);
        Due.is("setRate(6, -1)", store.setRate(6, -1), Due.UNKNOWN);
        Due.is("setRate(0, -1)", store.setRate(0, -1), Due.BAD_VALUE);
        Due.is("setRate(0, 1001)", store.setRate(0, 1001), Due.BAD_VALUE);
        Due.is("enter", store.enter(0, 5, 1, 1999), 0);
        Due.is("setRate(5, 1000)", store.setRate(5, 1000), 100);
        Due.is("setRate(0, 0)", store.setRate(0, 0), 100);
        Due.is("setRate(0, 3)", store.setRate(0, 3), 0);
        Due.is("the lot keeps its duty", store.lot(0, 6), 199);
        Due.is("enter at the new rate", store.enter(0, 5, 1, 1999), 1);
        Due.is("duty at the new rate", store.lot(1, 6), 1999);
        Due.is("enter at 3", store.enter(0, 0, 1, 1999), 2);
        Due.is("duty at 3", store.lot(2, 6), 5);
        Due.is("undo()", store.undo(), 5);
        Due.is("undo()", store.undo(), 4);
        Due.is("undo()", store.undo(), 3);
        Due.is("rate after undo", store.rate(0), 0);
        Due.is("other rate after undo", store.rate(5), 1000);
    }

    private static void promise6SetTerms() {
        BondedStore store = Due.storeOf(1, 100000000);
        Due.is("setTerms(0, 1)", store.setTerms(0, 1), Due.BAD_VALUE);
        Due.is("setTerms(1001, 1)", store.setTerms(1001, 1), Due.BAD_VALUE);
        Due.is("setTerms(1, 0)", store.setTerms(1, 0), Due.BAD_VALUE);
        Due.is("setTerms(1, 201)", store.setTerms(1, 201), Due.BAD_VALUE);
        Due.is("nothing changed", store.count(6), 100);
        Due.is("enter", store.enter(0, 0, 10, 1000), 0);
        Due.is("export", store.export(0, 1), 0);
        Due.is("setTerms(1, 200)", store.setTerms(1, 200), 100);
        Due.is("setTerms(1000, 1)", store.setTerms(1000, 1), 1);
        Due.is("term", store.count(6), 1000);
        Due.is("proof days", store.count(7), 1);
        Due.is("deadline of the lot stays", store.lot(0, 5), 100);
        Due.is("deadline of the export stays", store.exported(0, 3), 30);
        Due.is("pass(3)", store.pass(3), 0);
        Due.is("enter", store.enter(0, 0, 10, 1000), 1);
        Due.is("export", store.export(0, 1), 1);
        Due.is("new deadline of a lot", store.lot(1, 5), 1003);
        Due.is("new deadline of an export", store.exported(1, 3), 4);
        for (int left = 5; left > 1; left--) {
            Due.is("undo()", store.undo(), left);
        }
        Due.is("term after undo", store.count(6), 1);
        Due.is("proof days after undo", store.count(7), 200);
    }

    private static void promise7SetRules() {
        BondedStore store = Due.storeOf(1, 10);
        int[][] bad = {{-1, 0, 0}, {101, 0, 0}, {0, -1, 0}, {0, 1001, 0}, {0, 0, -1}, {0, 0, 1001}};
        for (int[] rules : bad) {
            Due.is("setRules", store.setRules(rules[0], rules[1], rules[2]), Due.BAD_VALUE);
        }
        Due.is("nothing recorded", store.count(12), 2);
        Due.is("enter", store.enter(0, 0, 10, 500), 0);
        Due.is("setRules(100, 1000, 1000)", store.setRules(100, 1000, 1000), 20);
        Due.is("cover", store.count(8), 100);
        Due.is("allowance", store.count(9), 1000);
        Due.is("fee", store.count(10), 1000);
        Due.is("not covered any more", store.owner(0, 4), 0);
        Due.is("setRules(0, 0, 0)", store.setRules(0, 0, 0), 100);
        Due.is("covered by nothing", store.owner(0, 4), 1);
        Due.is("setGuarantee(0, 0) at cover 0", store.setGuarantee(0, 0), 10);
        Due.is("undo()", store.undo(), 5);
        Due.is("undo()", store.undo(), 4);
        Due.is("cover after undo", store.count(8), 100);
        Due.is("undo()", store.undo(), 3);
        Due.is("cover after undo", store.count(8), 20);
        Due.is("allowance after undo", store.count(9), 20);
        Due.is("fee after undo", store.count(10), 10);
    }

    private static void promise22Owner() {
        BondedStore store = Due.storeOf(2, 150);
        Due.is("owner(-1, 0)", store.owner(-1, 0), Due.UNKNOWN);
        Due.is("owner(2, 0)", store.owner(2, 0), Due.UNKNOWN);
        Due.is("owner(2, 7)", store.owner(2, 7), Due.UNKNOWN);
        Due.is("owner(0, -1)", store.owner(0, -1), Due.BAD_VALUE);
        Due.is("owner(0, 7)", store.owner(0, 7), Due.BAD_VALUE);
        store.deposit(0, 44);
        Due.is("enter", store.enter(0, 0, 10, 1000), 0);
        Due.is("enter", store.enter(0, 0, 1, 2000), 1);
        Due.is("enter", store.enter(1, 0, 1, 10), 2);
        Due.is("export", store.export(1, 1), 0);
        Due.is("release", store.release(0, 3), 30);
        long[] want = {14, 150, 0, 270, 1, 1, 0};
        for (int what = 0; what < want.length; what++) {
            Due.is("owner(0, " + what + ")", store.owner(0, what), want[what]);
        }
        Due.is("pass(31)", store.pass(31), 200);
        long[] then = {14, 0, 50, 70, 0, 1, 200};
        for (int what = 0; what < then.length; what++) {
            Due.is("then owner(0, " + what + ")", store.owner(0, what), then[what]);
        }
        Due.is("deposit", store.deposit(0, 10), 40);
        Due.is("cash stays", store.owner(0, 0), 14);
        Due.is("pass(70)", store.pass(70), 71);
        Due.is("debt of both calls", store.owner(0, 2), 110);
        Due.is("called of both calls", store.owner(0, 6), 270);
        Due.is("called of the other", store.owner(1, 6), 1);
        Due.is("use of nothing", store.owner(0, 3), 0);
        Due.is("nothing is covered", store.owner(0, 4), 1);
        Due.is("lots in the store", store.owner(0, 5), 0);
    }

    private static void promise32Rate() {
        BondedStore store = new BondedStore();
        Due.is("rate(-1)", store.rate(-1), Due.UNKNOWN);
        Due.is("rate(6)", store.rate(6), Due.UNKNOWN);
        Due.is("rate(MAX)", store.rate(Integer.MAX_VALUE), Due.UNKNOWN);
        for (int kind = 0; kind < 6; kind++) {
            Due.is("setRate", store.setRate(kind, 10 * kind), 100);
        }
        for (int kind = 0; kind < 6; kind++) {
            Due.is("rate(" + kind + ")", store.rate(kind), 10 * kind);
        }
        Due.is("rate is no act", store.count(12), 6);
    }
}
