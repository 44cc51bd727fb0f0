/**
 * Promises 2 to 15: for each argument the last value that is allowed and the first that is not, at
 * both ends; each refusal with its reason; and which of several errors is answered. Each error is
 * looked at with all that it must not change (see Story.isError).
 */
public final class EdgesOfActsTest {
    private static final int PLENTY = Stories.PLENTY;
    private static final int MIN = Integer.MIN_VALUE;
    private static final int MAX = Integer.MAX_VALUE;
    private static final Story BUSY = Stories.busy();

    private EdgesOfActsTest() {
    }

    public static void main(String[] args) {
        promise2AddOwner();
        promise3Deposit();
        promise3DepositPaysTheDebtFirst();
        promise4SetGuarantee();
        promise4Refusals();
        promise5SetRate();
        promise6SetTerms();
        promise7SetRules();
        promise8Enter();
        promise8OrderOfErrors();
        promise8Refusals();
        promise9Release();
        promise10Sample();
        promise11Export();
        promise12Prove();
        promise13Destroy();
        promise14Give();
        promise14Refusals();
        promise15Pass();
        usedUpRowsAreNotFree();
        Due.end();
    }

    /** "FULL if there are 5" */
    private static void promise2AddOwner() {
        BUSY.isAct("addOwner() with 3", s -> s.addOwner(), 3);
        BUSY.and(s -> s.addOwner()).isAct("addOwner() with 4", s -> s.addOwner(), 4);
        BUSY.and(s -> s.addOwner(), s -> s.addOwner()).isError("addOwner() with 5", s -> s.addOwner(), Due.FULL);
        Story undone = Story.of().times(5, s -> s.addOwner()).and(s -> s.undo());
        undone.isAct("addOwner() after undo", s -> s.addOwner(), 4);
    }

    /** "amount: 1 to 10000000", "UNKNOWN; BAD_VALUE" */
    private static void promise3Deposit() {
        for (int owner : new int[] {-1, 3, 4, 5, MIN, MAX}) {
            BUSY.isError("owner " + owner, s -> s.deposit(owner, 1), Due.UNKNOWN);
            BUSY.isError("owner " + owner + " ahead of the amount", s -> s.deposit(owner, 0), Due.UNKNOWN);
        }
        for (int amount : new int[] {0, -1, 10000001, MIN, MAX}) {
            BUSY.isError("amount " + amount, s -> s.deposit(0, amount), Due.BAD_VALUE);
        }
        BUSY.isAct("the least", s -> s.deposit(0, 1), 0);
        BUSY.isAct("the greatest", s -> s.deposit(0, 10000000), 0);
        BUSY.isAct("the last owner", s -> s.deposit(2, 1), 0);
        BUSY.and(s -> s.deposit(0, 10000000)).answers("cash", s -> s.owner(0, 0), 10000475);
    }

    private static void paid(int amount, int debt, int cash) {
        Story story = Stories.debtor();
        story.isAct("deposit(0, " + amount + ")", s -> s.deposit(0, amount), debt);
        Story then = story.and(s -> s.deposit(0, amount));
        then.answers("debt after " + amount, s -> s.owner(0, 2), debt);
        then.answers("cash after " + amount, s -> s.owner(0, 0), cash);
        then.answers("all deposits after " + amount, s -> s.account(6), amount);
    }

    /** "first the debt is paid with it, the rest increases the cash" */
    private static void promise3DepositPaysTheDebtFirst() {
        Stories.debtor().answers("the debt", s -> s.owner(0, 2), 84);
        paid(1, 83, 0);
        paid(83, 1, 0);
        paid(84, 0, 0);
        paid(85, 0, 1);
        paid(10000000, 0, 9999916);
    }

    /** "amount: 0 to 100000000", "UNKNOWN; BAD_VALUE; REFUSED for the reason 2" */
    private static void promise4SetGuarantee() {
        for (int owner : new int[] {-1, 3, 4, 5, MIN, MAX}) {
            BUSY.isError("owner " + owner, s -> s.setGuarantee(owner, 1000), Due.UNKNOWN);
            BUSY.isError("owner " + owner + " ahead of the amount", s -> s.setGuarantee(owner, -1), Due.UNKNOWN);
        }
        for (int amount : new int[] {-1, 100000001, MIN, MAX}) {
            BUSY.isError("amount " + amount, s -> s.setGuarantee(2, amount), Due.BAD_VALUE);
            BUSY.isError("amount " + amount + " ahead of the use", s -> s.setGuarantee(1, amount), Due.BAD_VALUE);
        }
        BUSY.isAct("the least", s -> s.setGuarantee(2, 0), 0);
        BUSY.isAct("the greatest", s -> s.setGuarantee(0, 100000000), 999972);
        BUSY.and(s -> s.setGuarantee(0, 100000000)).isAct("the previous", s -> s.setGuarantee(0, 5000), 100000000);
    }

    private static void promise4Refusals() {
        BUSY.isAct("just enough", s -> s.setGuarantee(1, 20), 40);
        BUSY.isRefused("just too little", s -> s.setGuarantee(1, 19), 2);
        BUSY.isRefused("none", s -> s.setGuarantee(1, 0), 2);
        Story waiting = BUSY.and(s -> s.export(1, 7));
        waiting.isRefused("exports that wait count", s -> s.setGuarantee(1, 19), 2);
        Story proved = BUSY.and(s -> s.prove(2));
        proved.isAct("proved ones do not: 70 at 20", s -> s.setGuarantee(1, 14), 40);
        proved.isRefused("70 at 20 with less", s -> s.setGuarantee(1, 13), 2);
        Stories.debtor().isAct("a debt plays no part", s -> s.setGuarantee(0, 1), 0);
        Story great = Stories.owners(1, 0).and(s -> s.setRules(0, 20, 10), s -> s.setRate(0, 1000))
                .times(11, s -> s.enter(0, 0, 1, 10000000)).and(s -> s.setRules(100, 20, 10));
        great.isRefused("no guarantee is enough", s -> s.setGuarantee(0, 100000000), 2);
        great.isError("but one that is not allowed", s -> s.setGuarantee(0, 100000001), Due.BAD_VALUE);
    }

    /** "kind: 0 to 5, rate: 0 to 1000", "UNKNOWN; BAD_VALUE" */
    private static void promise5SetRate() {
        for (int kind : new int[] {-1, 6, MIN, MAX}) {
            BUSY.isError("kind " + kind, s -> s.setRate(kind, 1), Due.UNKNOWN);
            BUSY.isError("kind " + kind + " ahead of the rate", s -> s.setRate(kind, -1), Due.UNKNOWN);
        }
        for (int rate : new int[] {-1, 1001, MIN, MAX}) {
            BUSY.isError("rate " + rate, s -> s.setRate(0, rate), Due.BAD_VALUE);
        }
        BUSY.isAct("the least", s -> s.setRate(0, 0), 100);
        BUSY.isAct("the greatest", s -> s.setRate(5, 1000), 100);
        BUSY.and(s -> s.setRate(5, 1000)).isAct("the previous", s -> s.setRate(5, 1), 1000);
        BUSY.and(s -> s.setRate(0, 1000)).shows("lots keep their duties due", (s, lot) -> s.lot(lot, 6), 100, 100, 500);
        BUSY.and(s -> s.setRate(3, 7)).shows("one rate alone", (s, kind) -> s.rate(kind), 100, 100, 100, 7, 100, 100);
    }

    /** "term: 1 to 1000, proof: the proof days, 1 to 200", "BAD_VALUE" */
    private static void promise6SetTerms() {
        for (int term : new int[] {0, -1, 1001, MIN, MAX}) {
            BUSY.isError("term " + term, s -> s.setTerms(term, 5), Due.BAD_VALUE);
        }
        for (int proof : new int[] {0, -1, 201, MIN, MAX}) {
            BUSY.isError("proof days " + proof, s -> s.setTerms(5, proof), Due.BAD_VALUE);
        }
        BUSY.isAct("the least", s -> s.setTerms(1, 1), 40);
        BUSY.isAct("the greatest", s -> s.setTerms(1000, 200), 40);
        BUSY.and(s -> s.setTerms(1000, 200)).isAct("the previous", s -> s.setTerms(2, 2), 1000);
        BUSY.and(s -> s.setTerms(1000, 200)).shows("both", (s, what) -> s.count(6 + what), 1000, 200);
        BUSY.and(s -> s.setTerms(1, 1)).shows("deadlines of lots stay", (s, lot) -> s.lot(lot, 5), 40, 40, 51);
        BUSY.and(s -> s.setTerms(1, 1)).shows("of exports too", (s, export) -> s.exported(export, 3), 10, 10, 21);
    }

    /** "cover: 0 to 100, allowance: 0 to 1000, fee: 0 to 1000", "BAD_VALUE" */
    private static void promise7SetRules() {
        for (int cover : new int[] {-1, 101, MIN, MAX}) {
            BUSY.isError("cover " + cover, s -> s.setRules(cover, 1, 1), Due.BAD_VALUE);
        }
        for (int other : new int[] {-1, 1001, MIN, MAX}) {
            BUSY.isError("allowance " + other, s -> s.setRules(1, other, 1), Due.BAD_VALUE);
            BUSY.isError("fee " + other, s -> s.setRules(1, 1, other), Due.BAD_VALUE);
        }
        BUSY.isAct("the least", s -> s.setRules(0, 0, 0), 20);
        BUSY.isAct("the greatest, though the use is not covered then", s -> s.setRules(100, 1000, 1000), 20);
        Story greatest = BUSY.and(s -> s.setRules(100, 1000, 1000));
        greatest.isAct("the previous", s -> s.setRules(1, 2, 3), 100);
        greatest.shows("all three", (s, what) -> s.count(8 + what), 100, 1000, 1000);
        greatest.and(s -> s.setRules(1, 2, 3)).shows("each its own", (s, what) -> s.count(8 + what), 1, 2, 3);
    }

    /** "quantity: 1 to 1000000, value: 0 to 10000000", "UNKNOWN for owner and kind; BAD_VALUE" */
    private static void promise8Enter() {
        for (int owner : new int[] {-1, 3, 4, 5, MIN, MAX}) {
            BUSY.isError("owner " + owner, s -> s.enter(owner, 0, 1, 1), Due.UNKNOWN);
        }
        for (int kind : new int[] {-1, 6, MIN, MAX}) {
            BUSY.isError("kind " + kind, s -> s.enter(0, kind, 1, 1), Due.UNKNOWN);
        }
        for (int quantity : new int[] {0, -1, 1000001, MIN, MAX}) {
            BUSY.isError("quantity " + quantity, s -> s.enter(0, 0, quantity, 1), Due.BAD_VALUE);
        }
        for (int value : new int[] {-1, 10000001, MIN, MAX}) {
            BUSY.isError("value " + value, s -> s.enter(0, 0, 1, value), Due.BAD_VALUE);
        }
        BUSY.isAct("the least", s -> s.enter(2, 0, 1, 0), 3);
        BUSY.isAct("the greatest", s -> s.enter(0, 5, 1000000, 10000000), 3);
        BUSY.and(s -> s.enter(0, 5, 1000000, 10000000)).shows("a new lot", (s, what) -> s.lot(3, what),
                0, 5, 1000000, 10000000, 11, 51, 1000000, 1000000, 1000000, 0, 0, 0, 0);
    }

    /** The owner 0 has a debt, there are 30 lots, and neither owner has a guarantee for a great value. */
    private static Story everythingRefuses(int lots) {
        return Stories.withLots(Stories.debtor(), 1, 1, lots);
    }

    private static void promise8OrderOfErrors() {
        Story story = everythingRefuses(30);
        story.answers("lots", s -> s.count(2), 30);
        story.isError("owner ahead of all", s -> s.enter(2, 6, 0, -1), Due.UNKNOWN);
        story.isError("kind ahead of the rest", s -> s.enter(0, 6, 0, -1), Due.UNKNOWN);
        story.isError("kind ahead of refusals", s -> s.enter(0, -1, 1, 10000000), Due.UNKNOWN);
        story.isError("quantity ahead of refusals", s -> s.enter(0, 0, 0, 10000000), Due.BAD_VALUE);
        story.isError("value ahead of refusals", s -> s.enter(0, 0, 1, 10000001), Due.BAD_VALUE);
        story.isRefused("1 ahead of 5 and 2", s -> s.enter(0, 0, 1, 10000000), 1);
        story.isRefused("5 ahead of 2", s -> s.enter(1, 0, 1, 10000000), 5);
        story.isRefused("5 alone", s -> s.enter(1, 0, 1, 0), 5);
        Story place = everythingRefuses(29);
        place.isRefused("1 ahead of 2", s -> s.enter(0, 0, 1, 10000000), 1);
        place.isRefused("2 alone", s -> s.enter(1, 0, 1, 10000000), 2);
        place.isAct("none of them", s -> s.enter(1, 0, 1, 1049), 29);
    }

    /** "REFUSED for the reasons 1, 5 and 2": each at its edge. */
    private static void promise8Refusals() {
        Story owing = Stories.debtor().and(s -> s.deposit(0, 83));
        owing.isRefused("a debt of one cent", s -> s.enter(0, 0, 1, 0), 1);
        owing.and(s -> s.deposit(0, 1)).isAct("no debt any more", s -> s.enter(0, 0, 1, 0), 1);
        owing.isAct("another owner's debt plays no part", s -> s.enter(1, 0, 1, 0), 1);
        BUSY.isAct("a use of 200 at 20", s -> s.enter(1, 0, 1, 1049), 3);
        BUSY.isRefused("a use of 205 at 20", s -> s.enter(1, 0, 1, 1050), 2);
        BUSY.isRefused("without a guarantee", s -> s.enter(2, 0, 1, 50), 2);
        BUSY.isAct("what rounds to no use", s -> s.enter(2, 0, 1, 49), 3);
        BUSY.and(s -> s.setRate(0, 0)).isAct("at the rate 0", s -> s.enter(2, 0, 1, 10000000), 3);
        Story twice = BUSY.and(s -> s.enter(1, 0, 1, 10000000));
        twice.isRefused("the same reason after another refusal", s -> s.release(1, 100), 4);
    }

    private interface Taking {
        long of(BondedStore store, int lot, int quantity);
    }

    /** What the four ways to take units have in common: "UNKNOWN; BAD_VALUE; REFUSED for the reasons 4 and ..." */
    private static void taking(String name, Taking taking) {
        for (int lot : new int[] {-1, 3, 29, 30, MIN, MAX}) {
            BUSY.isError(name + " of lot " + lot, s -> taking.of(s, lot, 1), Due.UNKNOWN);
            BUSY.isError(name + " of lot " + lot + ", quantity 0", s -> taking.of(s, lot, 0), Due.UNKNOWN);
        }
        for (int quantity : new int[] {0, -1, 1000001, MIN, MAX}) {
            BUSY.isError(name + " of " + quantity, s -> taking.of(s, 0, quantity), Due.BAD_VALUE);
        }
        BUSY.isRefused(name + " of the greatest quantity", s -> taking.of(s, 2, 1000000), 4);
        BUSY.isRefused(name + " of 20 of 19", s -> taking.of(s, 2, 20), 4);
        Story empty = BUSY.and(s -> s.export(2, 19));
        empty.isRefused(name + " of an empty lot", s -> taking.of(s, 2, 1), 4);
        BUSY.isRefused(name + " of what waits for a proof", s -> taking.of(s, 0, 5), 4);
        BUSY.isRefused(name + ", too many ahead of no cash", s -> taking.of(s, 1, 8), 4);
    }

    /** A lot of a million units with the duty 1000000. */
    private static Story greatLot(int cash) {
        return Stories.owners(1, PLENTY).and(s -> s.enter(0, 0, 1000000, 10000000), s -> s.deposit(0, cash));
    }

    /** An owner with cash, a debt of 80 and no guarantee, whose lot 1 has a suspended duty of 100. */
    private static Story owing(int cash) {
        return Stories.owners(1, 20).and(s -> s.setTerms(1, 30), s -> s.enter(0, 0, 7, 1000),
                s -> s.setTerms(100, 30), s -> s.setRules(0, 20, 10), s -> s.enter(0, 0, 7, 1000),
                s -> s.deposit(0, cash), s -> s.pass(2), s -> s.setRules(100, 20, 10));
    }

    private static void promise9Release() {
        taking("release", (s, lot, quantity) -> s.release(lot, quantity));
        BUSY.isAct("the least", s -> s.release(2, 1), 25);
        BUSY.isAct("all that are left, with all the cash", s -> s.release(2, 19), 475);
        Story less = BUSY.and(s -> s.release(2, 1), s -> s.enter(0, 0, 1, 4510));
        less.isRefused("one cent too little", s -> s.release(3, 1), 3);
        BUSY.isRefused("no cash", s -> s.release(1, 1), 3);
        greatLot(1000000).isAct("the greatest", s -> s.release(0, 1000000), 1000000);
        greatLot(999999).isRefused("the greatest, one cent too little", s -> s.release(0, 1000000), 3);
        owing(100).isAct("neither a debt nor the cover play a part", s -> s.release(1, 7), 100);
        Story free = Stories.owners(1, 0).and(s -> s.enter(0, 0, 5, 9));
        free.isAct("no duty needs no cash", s -> s.release(0, 5), 0);
    }

    private static void promise10Sample() {
        taking("sample", (s, lot, quantity) -> s.sample(lot, quantity));
        BUSY.isAct("the least", s -> s.sample(2, 1), 25);
        BUSY.isAct("all that are left, with all the cash", s -> s.sample(2, 19), 475);
        BUSY.isRefused("no cash", s -> s.sample(1, 1), 3);
        BUSY.and(s -> s.setRules(20, 100, 10)).isAct("one is free", s -> s.sample(1, 1), 0);
        BUSY.and(s -> s.setRules(20, 100, 10)).isRefused("one is free, one is not", s -> s.sample(1, 2), 3);
        greatLot(980000).isAct("the greatest, of which 20000 are free", s -> s.sample(0, 1000000), 980000);
        greatLot(979999).isRefused("the greatest, one cent too little", s -> s.sample(0, 1000000), 3);
        greatLot(1).isAct("all that are free", s -> s.sample(0, 20000), 0);
        greatLot(1).isAct("one more, with all the cash", s -> s.sample(0, 20001), 1);
        greatLot(1).isRefused("two more, one cent too little", s -> s.sample(0, 20002), 3);
        owing(100).isAct("neither a debt nor the cover play a part", s -> s.sample(1, 7), 100);
    }

    private static void promise11Export() {
        taking("export", (s, lot, quantity) -> s.export(lot, quantity));
        BUSY.isAct("the least", s -> s.export(1, 1), 3);
        BUSY.isAct("all that are left", s -> s.export(1, 7), 3);
        BUSY.and(s -> s.export(1, 7)).shows("a new export", (s, what) -> s.exported(3, what), 1, 7, 70, 21, 0);
        greatLot(1).isAct("the greatest", s -> s.export(0, 1000000), 0);
        owing(1).isAct("neither a debt nor the cover play a part", s -> s.export(1, 7), 0);
        Story full = Stories.thirtyExports();
        full.isError("the lot ahead of refusals", s -> s.export(1, 71), Due.UNKNOWN);
        full.isError("the quantity ahead of refusals", s -> s.export(0, 0), Due.BAD_VALUE);
        full.isError("the quantity ahead of both", s -> s.export(0, 1000001), Due.BAD_VALUE);
        full.isRefused("4 ahead of 5", s -> s.export(0, 71), 4);
        full.isRefused("5 alone", s -> s.export(0, 70), 5);
        full.isRefused("5 for one unit", s -> s.export(0, 1), 5);
    }

    /** "UNKNOWN; REFUSED for the reason 6" */
    private static void promise12Prove() {
        for (int export : new int[] {-1, 3, 29, 30, MIN, MAX}) {
            BUSY.isError("export " + export, s -> s.prove(export), Due.UNKNOWN);
        }
        BUSY.isAct("one that waits", s -> s.prove(2), 30);
        Story other = BUSY.and(s -> s.release(2, 20));
        other.isRefused("one that is lost", s -> s.prove(0), 6);
        other.isRefused("one that is proved", s -> s.prove(1), 6);
        other.and(s -> s.prove(2)).isRefused("one that was just proved", s -> s.prove(2), 6);
        other.and(s -> s.prove(2), s -> s.undo()).isAct("one that waits again", s -> s.prove(2), 30);
        owing(1).and(s -> s.export(1, 3)).isAct("neither a debt nor the cover play a part", s -> s.prove(0), 42);
        Story none = Stories.owners(1, 0).and(s -> s.enter(0, 0, 3, 10), s -> s.export(0, 2));
        none.isAct("a duty of 0", s -> s.prove(0), 0);
        none.and(s -> s.prove(0)).isRefused("a duty of 0 again", s -> s.prove(0), 6);
    }

    private static void promise13Destroy() {
        taking("destroy", (s, lot, quantity) -> s.destroy(lot, quantity));
        BUSY.isAct("the least", s -> s.destroy(2, 1), 25);
        BUSY.isAct("all that are left", s -> s.destroy(2, 19), 475);
        BUSY.and(s -> s.setRules(20, 20, 25)).isAct("with all the cash", s -> s.destroy(2, 19), 475);
        BUSY.and(s -> s.setRules(20, 20, 26)).isRefused("too little", s -> s.destroy(2, 19), 3);
        BUSY.isRefused("no cash", s -> s.destroy(1, 1), 3);
        BUSY.and(s -> s.setRules(20, 20, 0)).isAct("no fee needs no cash", s -> s.destroy(1, 7), 70);
        BUSY.and(s -> s.deposit(1, 10)).isAct("the duty needs no cash", s -> s.destroy(1, 1), 10);
        BUSY.and(s -> s.deposit(1, 9)).isRefused("one cent too little", s -> s.destroy(1, 1), 3);
        greatLot(10000000).isAct("the greatest", s -> s.destroy(0, 1000000), 1000000);
        greatLot(9999999).isRefused("the greatest, one cent too little", s -> s.destroy(0, 1000000), 3);
        owing(70).isAct("neither a debt nor the cover play a part", s -> s.destroy(1, 7), 100);
    }

    /** "UNKNOWN; BAD_VALUE if it is the same" */
    private static void promise14Give() {
        for (int unknown : new int[] {-1, 3, 29, 30, MIN, MAX}) {
            BUSY.isError("lot " + unknown, s -> s.give(unknown, 1), Due.UNKNOWN);
        }
        for (int unknown : new int[] {-1, 3, 4, 5, MIN, MAX}) {
            BUSY.isError("owner " + unknown, s -> s.give(0, unknown), Due.UNKNOWN);
            BUSY.isError("both unknown", s -> s.give(unknown, unknown), Due.UNKNOWN);
        }
        BUSY.isError("the same", s -> s.give(0, 0), Due.BAD_VALUE);
        BUSY.isError("the same of another lot", s -> s.give(1, 1), Due.BAD_VALUE);
        BUSY.isAct("to another", s -> s.give(0, 1), 0);
        BUSY.isAct("from another", s -> s.give(1, 0), 1);
        BUSY.and(s -> s.give(0, 1)).isAct("back", s -> s.give(0, 0), 1);
        BUSY.and(s -> s.give(0, 1)).isError("the same since", s -> s.give(0, 1), Due.BAD_VALUE);
    }

    /** "REFUSED for the reasons 1 and 2 (of the new owner), in this order" */
    private static void promise14Refusals() {
        Story debtor = Stories.debtor().and(s -> s.enter(1, 0, 1, 1049));
        debtor.isError("the lot ahead of refusals", s -> s.give(2, 0), Due.UNKNOWN);
        debtor.isError("the same ahead of a debt", s -> s.give(0, 0), Due.BAD_VALUE);
        debtor.isRefused("1 ahead of 2", s -> s.give(1, 0), 1);
        debtor.and(s -> s.deposit(0, 83)).isRefused("a debt of one cent", s -> s.give(1, 0), 1);
        Story paid = debtor.and(s -> s.deposit(0, 84));
        paid.isRefused("2 alone", s -> s.give(1, 0), 2);
        paid.and(s -> s.setGuarantee(0, 19)).isRefused("just too little", s -> s.give(1, 0), 2);
        paid.and(s -> s.setGuarantee(0, 20)).isAct("just enough", s -> s.give(1, 0), 1);
        debtor.and(s -> s.setGuarantee(0, 20)).isRefused("1 alone", s -> s.give(1, 0), 1);
        debtor.isAct("the debt of who gives plays no part", s -> s.give(0, 1), 0);
        Story uncovered = debtor.and(s -> s.setRules(100, 20, 10));
        uncovered.isError("the same ahead of the cover", s -> s.give(1, 1), Due.BAD_VALUE);
        uncovered.isRefused("a used up lot to who is not covered", s -> s.give(0, 1), 2);
        Story giver = uncovered.and(s -> s.deposit(0, 84), s -> s.setGuarantee(0, 104));
        giver.isAct("the cover of who gives plays no part", s -> s.give(1, 0), 1);
        BUSY.isAct("58 more, 158 at 20 of 40", s -> s.give(0, 1), 0);
        BUSY.isRefused("475 more", s -> s.give(2, 1), 2);
    }

    /** "days: 1 to 100", "BAD_VALUE" */
    private static void promise15Pass() {
        for (int days : new int[] {0, -1, 101, MIN, MAX}) {
            BUSY.isError("days " + days, s -> s.pass(days), Due.BAD_VALUE);
        }
        BUSY.isAct("the least", s -> s.pass(1), 0);
        BUSY.isAct("the greatest", s -> s.pass(100), 58 + 100 + 475);
        BUSY.and(s -> s.pass(1)).answers("the day after one", s -> s.count(0), 12);
        BUSY.and(s -> s.pass(100)).answers("the day after a hundred", s -> s.count(0), 111);
        Story empty = Story.of();
        empty.isAct("days of nothing", s -> s.pass(100), 0);
    }

    /** "5 there are 30 lots or 30 exports already (also such that are used up)" */
    private static void usedUpRowsAreNotFree() {
        Story lots = Stories.owners(1, PLENTY).times(30, s -> s.enter(0, 0, 1, 0));
        Story released = lots;
        for (int i = 0; i < 30; i++) {
            int lot = i;
            released = released.and(s -> s.release(lot, 1));
        }
        released.isRefused("30 lots that were released", s -> s.enter(0, 0, 1, 0), 5);
        Story seized = lots.and(s -> s.pass(100), s -> s.pass(1));
        seized.isRefused("30 lots that were seized", s -> s.enter(0, 0, 1, 0), 5);
        Story proved = Stories.thirtyExports();
        for (int i = 0; i < 30; i++) {
            int export = i;
            proved = proved.and(s -> s.prove(export));
        }
        proved.isRefused("30 exports that were proved", s -> s.export(0, 1), 5);
        Story lost = Stories.thirtyExports().and(s -> s.pass(31));
        lost.isRefused("30 exports that were lost", s -> s.export(0, 1), 5);
        lots.and(s -> s.undo()).isAct("a lot that was undone is one", s -> s.enter(0, 0, 1, 0), 29);
    }
}
