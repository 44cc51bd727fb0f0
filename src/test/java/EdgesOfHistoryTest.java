/**
 * "REFUSALS", "HISTORY" and "ERRORS", and promises 19 to 21: each sentence that names a boundary
 * case has a test here. That errors change nothing is looked at in each use of Story.isError.
 */
public final class EdgesOfHistoryTest {
    private static final int MIN = Integer.MIN_VALUE;
    private static final int MAX = Integer.MAX_VALUE;
    private static final Story BUSY = Stories.busy();

    private EdgesOfHistoryTest() {
    }

    public static void main(String[] args) {
        theReason();
        theReasonStays();
        atMostSixStates();
        theOldestIsDropped();
        undoOfNothing();
        undoRemovesTheLatest();
        actsThatChangeNothing();
        callsThatAreNoActs();
        emptySlots();
        slotsZeroAndOne();
        inPlaceOfWhatIsThere();
        whereItStays();
        whatIsNoPartOfAState();
        restoreIsAnAct();
        newRowsAreNew();
        Due.end();
    }

    /** "The reason is 0 at first, and stays until the next refusal." */
    private static void theReason() {
        Story.of().answers("the reason at first", s -> s.count(11), 0);
        Story full = Stories.withLots(Stories.debtor(), 1, 1, 29).and(s -> s.enter(1, 0, 5, 1000), s -> s.export(29, 1),
                s -> s.prove(0));
        full.answers("the reason of none", s -> s.count(11), 0);
        full = full.and(s -> s.enter(0, 0, 1, 0));
        full.answers("a debt", s -> s.count(11), 1);
        full = full.and(s -> s.setGuarantee(1, 1));
        full.answers("not covered", s -> s.count(11), 2);
        full = full.and(s -> s.release(29, 1));
        full.answers("too little cash", s -> s.count(11), 3);
        full = full.and(s -> s.release(29, 5));
        full.answers("too few units", s -> s.count(11), 4);
        full = full.and(s -> s.enter(1, 0, 1, 0));
        full.answers("30 lots", s -> s.count(11), 5);
        full = full.and(s -> s.prove(0));
        full.answers("the export does not wait", s -> s.count(11), 6);
        full = full.and(s -> s.setGuarantee(1, 1));
        full.answers("and again", s -> s.count(11), 2);
    }

    private static void reasonStays(String name, Call call) {
        BUSY.and(call).answers("the reason after " + name, s -> s.count(11), 6);
    }

    private static void theReasonStays() {
        reasonStays("undo()", s -> s.undo());
        reasonStays("all of undo()", s -> s.undo() + s.undo() + s.undo() + s.undo() + s.undo() + s.undo() + s.undo());
        reasonStays("keep(1)", s -> s.keep(1));
        reasonStays("restore(0)", s -> s.restore(0));
        reasonStays("restore(1)", s -> s.restore(1));
        reasonStays("clearText()", s -> s.clearText());
        reasonStays("type('x')", s -> s.type('x'));
        reasonStays("runOrders()", s -> s.runOrders());
        reasonStays("pass(100)", s -> s.pass(100));
        reasonStays("addOwner()", s -> s.addOwner());
    }

    /** "A history of at most 6 states is kept" */
    private static void atMostSixStates() {
        Story story = Story.of();
        for (int i = 0; i < 10; i++) {
            story.answers("states after " + i + " acts", s -> s.count(12), Math.min(i, 6));
            story.isAct("one act more", s -> s.pass(1), 0);
            story = story.and(s -> s.pass(1));
        }
    }

    /** "when one more is recorded, the oldest is dropped" */
    private static void theOldestIsDropped() {
        for (int acts = 1; acts <= 16; acts++) {
            BondedStore store = Story.of().times(acts, s -> s.pass(1)).told();
            int kept = Math.min(acts, 6);
            for (int i = 1; i <= kept; i++) {
                Due.is("undo of " + acts, store.undo(), kept - i);
                Due.is("day after undo of " + acts, store.count(0), acts - i);
            }
            Due.is("undo of all of " + acts, store.undo(), Due.NONE);
            Due.is("day after undo of all of " + acts, store.count(0), acts - kept);
        }
    }

    /** "NONE if the history is empty" */
    private static void undoOfNothing() {
        Story.of().isError("a new store", s -> s.undo(), Due.NONE);
        Story.of(s -> s.type('x'), s -> s.keep(0)).isError("no act yet", s -> s.undo(), Due.NONE);
        Story undone = Story.of(s -> s.addOwner(), s -> s.undo());
        undone.isError("all undone", s -> s.undo(), Due.NONE);
        undone.isAct("an act then", s -> s.addOwner(), 0);
        BUSY.times(6, s -> s.undo()).isError("all of a full history undone", s -> s.undo(), Due.NONE);
        Story.of(s -> s.addOwner()).answers("the last one", s -> s.undo(), 0);
    }

    /** "undo() removes and restores the latest", also between acts and around the end of the ring. */
    private static void undoRemovesTheLatest() {
        for (int acts = 0; acts <= 14; acts++) {
            Story story = Story.of().times(acts, s -> s.pass(1));
            int kept = Math.min(acts, 6);
            for (int undone = 1; undone <= kept; undone++) {
                Story then = story.times(undone, s -> s.undo());
                then.answers("states", s -> s.count(12), kept - undone);
                then.answers("day", s -> s.count(0), acts - undone);
                Story more = then.and(s -> s.pass(10), s -> s.pass(10), s -> s.undo());
                more.answers("day of another act", s -> s.count(0), acts - undone + 10);
                more.and(s -> s.undo()).answers("day before it", s -> s.count(0), acts - undone);
            }
        }
    }

    /** "Each call of a method that is described as an act, and returns no error and not NONE, records ..." */
    private static void actsThatChangeNothing() {
        Story few = Stories.owners(1, 40).and(s -> s.keep(0));
        few.isAct("the same guarantee", s -> s.setGuarantee(0, 40), 40);
        few.isAct("the same rate", s -> s.setRate(0, 100), 100);
        few.isAct("the same terms", s -> s.setTerms(100, 30), 100);
        few.isAct("the same rules", s -> s.setRules(20, 20, 10), 20);
        few.isAct("the same state", s -> s.restore(0), 0);
        few.text("prove 0").isAct("no order", s -> s.runOrders(), 0);
    }

    private static void callsThatAreNoActs() {
        BUSY.isNoAct("type", s -> s.type('x'), 19);
        BUSY.isNoAct("clearText", s -> s.clearText(), 18);
        BUSY.isNoAct("keep(0)", s -> s.keep(0), 3);
        BUSY.isNoAct("keep(1)", s -> s.keep(1), 3);
        BUSY.answers("undo records nothing", s -> s.undo(), 5);
        BUSY.and(s -> s.undo()).answers("nor does it then", s -> s.undo(), 4);
    }

    /** "There are two slots for snapshots, empty at first.", "UNKNOWN; NONE if the slot is empty" */
    private static void emptySlots() {
        Story.of().isError("slot 0 of a new store", s -> s.restore(0), Due.NONE);
        Story.of().isError("slot 1 of a new store", s -> s.restore(1), Due.NONE);
        BUSY.isError("slot 1 when 0 is kept", s -> s.restore(1), Due.NONE);
        Story one = Story.of(s -> s.addOwner(), s -> s.keep(1));
        one.isError("slot 0 when 1 is kept", s -> s.restore(0), Due.NONE);
        one.isAct("slot 1", s -> s.restore(1), 0);
        Story.of(s -> s.keep(0)).isAct("a snapshot of a new store", s -> s.restore(0), 0);
        BUSY.and(s -> s.restore(1)).isError("restore(1) keeps nothing", s -> s.restore(1), Due.NONE);
    }

    /** "slot: 0 or 1" */
    private static void slotsZeroAndOne() {
        for (int slot : new int[] {-1, 2, MIN, MAX}) {
            BUSY.isError("keep(" + slot + ")", s -> s.keep(slot), Due.UNKNOWN);
            BUSY.isError("restore(" + slot + ")", s -> s.restore(slot), Due.UNKNOWN);
            Story.of().isError("restore(" + slot + ") at first", s -> s.restore(slot), Due.UNKNOWN);
        }
        BUSY.isAct("restore(0)", s -> s.restore(0), 2);
        Story both = BUSY.and(s -> s.keep(1), s -> s.pass(3));
        both.isAct("the slot 0", s -> s.restore(0), 2);
        both.isAct("the slot 1", s -> s.restore(1), 3);
        both.and(s -> s.restore(1)).isLike("the state of the slot 1", BUSY);
        both.and(s -> s.restore(0)).isLike("the state of the slot 0", BUSY.and(s -> s.restore(0)));
    }

    /** "Takes a snapshot of the state into a slot, in place of what is there." */
    private static void inPlaceOfWhatIsThere() {
        Story again = BUSY.and(s -> s.keep(0), s -> s.pass(50), s -> s.enter(0, 0, 1, 0));
        again.isAct("what was kept at last", s -> s.restore(0), 3);
        again.and(s -> s.restore(0)).isLike("the state that was kept at last", BUSY);
        Story.of().isNoAct("no lots", s -> s.keep(0), 0);
        Stories.withLots(Stories.owners(1, 0), 0, 0, 30).isNoAct("30 lots", s -> s.keep(1), 30);
    }

    /** "Restores the state of a slot, where it stays." */
    private static void whereItStays() {
        Story story = BUSY.and(s -> s.keep(1), s -> s.restore(1), s -> s.pass(20), s -> s.enter(0, 0, 5, 70),
                s -> s.deposit(0, 5), s -> s.setRate(1, 3), s -> s.prove(2));
        story.isAct("once more", s -> s.restore(1), 3);
        story.and(s -> s.restore(1)).isLike("as it was kept", BUSY);
        story.and(s -> s.restore(1), s -> s.restore(1)).isLike("a third time", BUSY);
        story.and(s -> s.restore(1), s -> s.undo()).isLike("undone", story);
    }

    /** "A state is everything but the text, the history, the slots and the reason." */
    private static void whatIsNoPartOfAState() {
        Story story = BUSY.text("days 5;days 6").and(s -> s.pass(1));
        story.and(s -> s.undo()).isNoAct("undo leaves the text", s -> s.clearText(), 13);
        story.and(s -> s.restore(0)).isNoAct("restore leaves the text", s -> s.clearText(), 13);
        story.and(s -> s.clearText(), s -> s.undo()).isNoAct("undo brings no text", s -> s.clearText(), 0);
        story.and(s -> s.restore(0)).answers("restore leaves the history", s -> s.undo(), 5);
        Story few = Story.of(s -> s.addOwner(), s -> s.keep(0), s -> s.pass(1), s -> s.pass(1), s -> s.restore(0));
        few.answers("restore brings no history", s -> s.count(12), 4);
        few.and(s -> s.undo()).answers("undo after restore", s -> s.count(0), 2);
        Story kept = BUSY.and(s -> s.pass(1), s -> s.keep(1), s -> s.undo());
        kept.isAct("undo leaves the slots", s -> s.restore(1), 3);
        kept.and(s -> s.restore(1)).isLike("undo leaves their state", BUSY.and(s -> s.pass(1)));
        kept.and(s -> s.restore(0)).isAct("restore leaves the other slot", s -> s.restore(1), 3);
        Story reason = BUSY.and(s -> s.keep(1), s -> s.release(2, 100));
        reason.and(s -> s.restore(1)).answers("restore leaves the reason", s -> s.count(11), 4);
        reason.and(s -> s.undo()).answers("undo leaves the reason", s -> s.count(11), 4);
    }

    private static void restoreIsAnAct() {
        Story story = Stories.oneLot(100).and(s -> s.undo(), s -> s.undo(), s -> s.keep(0), s -> s.pass(9));
        story.answers("states", s -> s.count(12), 3);
        story.isAct("restore", s -> s.restore(0), 0);
        story.and(s -> s.restore(0)).answers("states then", s -> s.count(12), 4);
        story.and(s -> s.restore(0), s -> s.undo()).answers("the day before it", s -> s.count(0), 9);
        BUSY.and(s -> s.restore(0)).answers("states of a full history", s -> s.count(12), 6);
    }

    /** A lot, an export and an owner that were undone leave nothing to those that get their numbers. */
    private static void newRowsAreNew() {
        Story story = Stories.oneLot(1000);
        Story used = story.and(s -> s.enter(0, 4, 9, 900), s -> s.sample(1, 4), s -> s.export(1, 5), s -> s.prove(0),
                s -> s.addOwner(), s -> s.deposit(1, 70));
        Story undone = used.times(6, s -> s.undo());
        undone.isLike("all undone", story);
        Call enter = s -> s.enter(0, 1, 3, 300);
        Call export = s -> s.export(1, 2);
        Call owner = s -> s.addOwner();
        undone.and(enter, export, owner).isLike("new rows", story.and(enter, export, owner));
        Story kept = story.and(s -> s.keep(0)).and(s -> s.enter(0, 4, 9, 900), s -> s.sample(1, 4), s -> s.export(1, 5),
                s -> s.prove(0), s -> s.addOwner(), s -> s.deposit(1, 70), s -> s.pass(2), s -> s.restore(0));
        kept.and(enter, export, owner).isLike("new rows after restore", story.and(enter, export, owner));
        Story seized = story.and(s -> s.keep(0), s -> s.pass(100), s -> s.pass(1), s -> s.restore(0));
        seized.isLike("a seized lot is restored", story);
    }
}
