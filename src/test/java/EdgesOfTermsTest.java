/**
 * "Terms", from its beginning to "DAYS": each sentence that names a boundary case has a test here,
 * with the sentence above it. Orders, documents, refusals and the history have tests of their own.
 */
public final class EdgesOfTermsTest {
    private static final int PLENTY = Stories.PLENTY;

    private EdgesOfTermsTest() {
    }

    public static void main(String[] args) {
        quotientsAreRoundedDown();
        nothingOverflows();
        atMostFiveOwners();
        sixKinds();
        atMostThirtyLots();
        theDutyDue();
        theRateOfTheEntering();
        theDutyOfUnits();
        suspendedPaidOrDischarged();
        theUse();
        theCover();
        coveredIfAtMostTheGuarantee();
        countsAsItWouldBeThen();
        theTerm();
        releasingPaysFromTheCash();
        samplesAreFreeUpToANumber();
        bothPartsOfASample();
        theProofDays();
        atMostThirtyExports();
        theFee();
        givingWhatALotHas();
        deadlinesOfExports();
        deadlinesOfLots();
        exportsOutliveTheirLot();
        seizedLots();
        callingADuty();
        callingSeveralDuties();
        Due.end();
    }

    private static void dueOf(int rate, int value, int due) {
        Stories.owners(1, PLENTY).and(s -> s.setRate(0, rate), s -> s.enter(0, 0, 1, value))
                .answers("duty of " + value + " at " + rate, s -> s.lot(0, 6), due);
    }

    /** "All quotients are rounded down." */
    private static void quotientsAreRoundedDown() {
        dueOf(100, 9, 0);
        dueOf(100, 10, 1);
        dueOf(100, 19, 1);
        dueOf(1, 999, 0);
        dueOf(1, 1000, 1);
        dueOf(1, 1999, 1);
        dueOf(999, 1, 0);
        dueOf(999, 2, 1);
        dueOf(1, 9999999, 9999);
    }

    /** "Nothing overflows." */
    private static void nothingOverflows() {
        dueOf(1000, 10000000, 10000000);
        dueOf(999, 9999999, 9989999);
        Story wide = Stories.owners(1, 0).and(s -> s.setRate(5, 1000), s -> s.setRules(0, 20, 1000))
                .times(30, s -> s.enter(0, 5, 1000000, 10000000));
        wide.answers("use of all", s -> s.owner(0, 3), 300000000);
        wide.answers("duties due of all", s -> s.account(0), 300000000);
        wide.answers("suspended of all", s -> s.account(1), 300000000);
        Story covered = wide.and(s -> s.setGuarantee(0, PLENTY), s -> s.setRules(33, 20, 1000));
        covered.answers("99000000 of a guarantee of 100000000", s -> s.owner(0, 4), 1);
        covered.and(s -> s.setRules(34, 20, 1000)).answers("102000000 of it", s -> s.owner(0, 4), 0);
        covered.and(s -> s.setRules(100, 20, 1000)).answers("300000000 of it", s -> s.owner(0, 4), 0);
        Story called = wide.and(s -> s.pass(100));
        called.answers("called in one day", s -> s.calledIn(1), 300000000);
        called.isAct("called of all", s -> s.pass(1), 300000000);
        Story owing = called.and(s -> s.pass(1));
        owing.answers("the debt of all", s -> s.owner(0, 2), 300000000);
        owing.answers("called of all", s -> s.account(4), 300000000);
        owing.answers("paid of all", s -> s.account(2), 300000000);
        owing.isAct("a deposit", s -> s.deposit(0, 10000000), 290000000);
        owing.times(30, s -> s.deposit(0, 10000000)).shows("all deposits", (s, what) -> s.owner(0, what), 0, 0, 0);
        Story taken = wide.and(s -> s.export(0, 999999));
        taken.answers("duty of all but one unit", s -> s.exported(0, 2), 9999990);
        taken.and(s -> s.export(0, 1)).answers("of the last one", s -> s.exported(1, 2), 10);
        Story rich = wide.times(300, s -> s.deposit(0, 10000000));
        rich.answers("the cash", s -> s.owner(0, 0), 3000000000L);
        rich.answers("the deposits", s -> s.account(6), 3000000000L);
        Story poor = rich.and(s -> s.destroy(0, 1000000), s -> s.destroy(1, 1000000), s -> s.destroy(2, 1000000));
        poor.answers("the cash then", s -> s.owner(0, 0), 0);
        poor.answers("the fees", s -> s.account(5), 3000000000L);
        poor.isRefused("a fee of a thousand millions", s -> s.destroy(3, 1000000), 3);
    }

    /** "There are at most 5 owners, numbered from 0. An owner has a cash, a guarantee and a debt, all 0 at first." */
    private static void atMostFiveOwners() {
        Story story = Story.of();
        story.isAct("the first owner", s -> s.addOwner(), 0);
        story.times(4, s -> s.addOwner()).isAct("the fifth owner", s -> s.addOwner(), 4);
        story.times(5, s -> s.addOwner()).isError("a sixth owner", s -> s.addOwner(), Due.FULL);
        story.times(4, s -> s.addOwner()).isError("the owner 4 of 4", s -> s.owner(4, 0), Due.UNKNOWN);
        for (int i = 0; i < 5; i++) {
            int owner = i;
            story.times(5, s -> s.addOwner())
                    .shows("new owner " + i, (s, what) -> s.owner(owner, what), 0, 0, 0, 0, 1, 0, 0);
        }
        Stories.busy().and(s -> s.addOwner())
                .shows("owner after others", (s, what) -> s.owner(3, what), 0, 0, 0, 0, 1, 0, 0);
    }

    /** "There are six kinds of goods, 0 to 5, each with a rate from 0 to 1000, at first 100." */
    private static void sixKinds() {
        Story story = Stories.owners(1, PLENTY);
        story.shows("rates at first", (s, kind) -> s.rate(kind), 100, 100, 100, 100, 100, 100, Due.UNKNOWN);
        story.answers("kind -1", s -> s.rate(-1), Due.UNKNOWN);
        story.isAct("a lot of the kind 0", s -> s.enter(0, 0, 1, 1), 0);
        story.isAct("a lot of the kind 5", s -> s.enter(0, 5, 1, 1), 0);
        story.isError("a lot of the kind 6", s -> s.enter(0, 6, 1, 1), Due.UNKNOWN);
        story.isError("a lot of the kind -1", s -> s.enter(0, -1, 1, 1), Due.UNKNOWN);
        story.and(s -> s.setRate(2, 0), s -> s.setRate(3, 1000))
                .shows("rates of each", (s, kind) -> s.rate(kind), 100, 100, 0, 1000, 100, 100);
    }

    /** "There are at most 30 lots, numbered from 0." */
    private static void atMostThirtyLots() {
        Story story = Stories.owners(1, 0);
        story.isAct("the first lot", s -> s.enter(0, 0, 1, 0), 0);
        story.isError("the lot 0 of none", s -> s.lot(0, 0), Due.UNKNOWN);
        Story most = Stories.withLots(story, 0, 0, 29);
        most.isAct("the 30th lot", s -> s.enter(0, 0, 1, 0), 29);
        most.isError("the lot 29 of 29", s -> s.lot(29, 0), Due.UNKNOWN);
        Story full = Stories.withLots(story, 0, 0, 30);
        full.isRefused("a 31st lot", s -> s.enter(0, 0, 1, 0), 5);
        full.isError("the lot 30 of 30", s -> s.lot(30, 0), Due.UNKNOWN);
        full.answers("the lots", s -> s.count(2), 30);
    }

    /** "the duty due D = value * rate / 1000" */
    private static void theDutyDue() {
        dueOf(0, 10000000, 0);
        dueOf(1000, 0, 0);
        dueOf(1000, 1, 1);
        dueOf(500, 1, 0);
        dueOf(500, 3, 1);
        dueOf(333, 1000, 333);
    }

    /** "... by the rate of its kind when it is entered." */
    private static void theRateOfTheEntering() {
        Story story = Stories.oneLot().and(s -> s.setRate(0, 1000), s -> s.enter(0, 0, 7, 1000),
                s -> s.enter(0, 1, 7, 1000));
        story.answers("entered at 100", s -> s.lot(0, 6), 100);
        story.answers("suspended at 100", s -> s.lot(0, 8), 100);
        story.answers("entered at 1000", s -> s.lot(1, 6), 1000);
        story.answers("another kind", s -> s.lot(2, 6), 100);
        story.and(s -> s.export(0, 7)).answers("its duty", s -> s.exported(0, 2), 100);
    }

    /** "When q units are taken from a lot of which x units were taken before, their duty is ..." */
    private static void theDutyOfUnits() {
        Story story = Stories.oneLot(1000).and(s -> s.setRules(20, 1000, 10));
        story.isAct("the first unit", s -> s.release(0, 1), 14);
        story.and(s -> s.release(0, 1)).isAct("the second", s -> s.release(0, 1), 14);
        story.and(s -> s.release(0, 6)).isAct("the last", s -> s.release(0, 1), 15);
        story.isAct("all at once", s -> s.release(0, 7), 100);
        story.and(s -> s.export(0, 1)).isAct("after an export", s -> s.release(0, 2), 28);
        story.and(s -> s.sample(0, 1)).isAct("after a sample", s -> s.release(0, 2), 28);
        story.and(s -> s.destroy(0, 1)).isAct("after a destruction", s -> s.release(0, 2), 28);
        story.and(s -> s.release(0, 2)).isAct("destroyed", s -> s.destroy(0, 1), 14);
        story.and(s -> s.release(0, 3), s -> s.export(0, 2)).answers("exported", s -> s.exported(0, 2), 29);
        story.and(s -> s.release(0, 3), s -> s.pass(100)).isAct("seized", s -> s.pass(1), 58);
        story.and(s -> s.release(0, 3), s -> s.sample(0, 4)).answers("sampled", s -> s.lot(0, 10), 58);
        Story one = Stories.owners(1, PLENTY).and(s -> s.enter(0, 0, 3, 10), s -> s.deposit(0, 100));
        one.isAct("none of one cent", s -> s.release(0, 2), 0);
        one.and(s -> s.release(0, 2)).isAct("all of one cent", s -> s.release(0, 1), 1);
        one.and(s -> s.enter(0, 0, 1, 10)).isAct("a lot of one unit", s -> s.release(1, 1), 1);
        one.and(s -> s.enter(0, 0, 5, 9)).isAct("a lot without a duty", s -> s.release(1, 5), 0);
    }

    private static void duties(Story story, String name, int stored, int suspended, int paid, int discharged) {
        story.answers(name + ", in the store", s -> s.lot(0, 7), stored);
        story.answers(name + ", suspended", s -> s.lot(0, 8), suspended);
        story.answers(name + ", paid", s -> s.lot(0, 9), paid);
        story.answers(name + ", discharged", s -> s.lot(0, 10), discharged);
        story.answers(name + ", account of the suspended", s -> s.account(1), suspended);
        story.answers(name + ", account of the paid", s -> s.account(2), paid);
        story.answers(name + ", account of the discharged", s -> s.account(3), discharged);
        story.answers(name + ", account of the duties due", s -> s.account(0), 100);
    }

    /** "The duty of units is suspended as long as they lie in the store, or wait for the proof of an export ..." */
    private static void suspendedPaidOrDischarged() {
        Story story = Stories.oneLot(1000);
        duties(story, "entered", 7, 100, 0, 0);
        duties(story.and(s -> s.release(0, 2)), "released", 5, 72, 28, 0);
        duties(story.and(s -> s.sample(0, 2)), "sampled and paid", 5, 72, 28, 0);
        duties(story.and(s -> s.setRules(20, 1000, 10), s -> s.sample(0, 2)), "sampled", 5, 72, 0, 28);
        duties(story.and(s -> s.destroy(0, 2)), "destroyed", 5, 72, 0, 28);
        Story exported = story.and(s -> s.export(0, 2));
        duties(exported, "exported", 5, 100, 0, 0);
        duties(exported.and(s -> s.prove(0)), "proved", 5, 72, 0, 28);
        duties(exported.and(s -> s.pass(31)), "lost", 5, 72, 28, 0);
        duties(story.and(s -> s.pass(100)), "not yet seized", 7, 100, 0, 0);
        duties(story.and(s -> s.pass(100), s -> s.pass(1)), "seized", 0, 0, 100, 0);
    }

    /** "The use of an owner is the sum of the suspended duties of all units of the lots that the owner has." */
    private static void theUse() {
        Story story = Stories.owners(2, PLENTY);
        story.answers("no lot", s -> s.owner(0, 3), 0);
        Story lots = story.and(s -> s.enter(0, 0, 7, 1000), s -> s.enter(1, 0, 7, 2000), s -> s.enter(0, 0, 7, 3000),
                s -> s.deposit(0, 1000));
        lots.answers("two lots", s -> s.owner(0, 3), 400);
        lots.answers("another owner", s -> s.owner(1, 3), 200);
        lots.and(s -> s.export(0, 7)).answers("with what waits", s -> s.owner(0, 3), 400);
        lots.and(s -> s.export(0, 7), s -> s.prove(0)).answers("without what is proved", s -> s.owner(0, 3), 300);
        lots.and(s -> s.export(0, 7), s -> s.pass(31)).answers("without what is lost", s -> s.owner(0, 3), 300);
        lots.and(s -> s.release(0, 7)).answers("without what is released", s -> s.owner(0, 3), 300);
        lots.and(s -> s.destroy(0, 7)).answers("without what is destroyed", s -> s.owner(0, 3), 300);
        lots.and(s -> s.pass(100), s -> s.pass(1)).answers("without what is seized", s -> s.owner(0, 3), 0);
        lots.and(s -> s.give(1, 0)).answers("with what was given", s -> s.owner(0, 3), 600);
        lots.and(s -> s.give(0, 1)).answers("without what was given away", s -> s.owner(0, 3), 300);
    }

    /** "The cover is from 0 to 100, at first 20." */
    private static void theCover() {
        Story.of().answers("the cover at first", s -> s.count(8), 20);
        Story story = Stories.owners(1, 99).and(s -> s.enter(0, 0, 1, 1000));
        story.and(s -> s.setRules(0, 20, 10)).isAct("at cover 0", s -> s.setGuarantee(0, 0), 99);
        story.and(s -> s.setRules(99, 20, 10)).answers("at cover 99", s -> s.owner(0, 4), 1);
        story.and(s -> s.setRules(100, 20, 10)).answers("at cover 100", s -> s.owner(0, 4), 0);
    }

    private static void isCovered(int cover, int use, int guarantee, boolean covered) {
        Story story = Stories.owners(1, guarantee).and(s -> s.setRate(0, 1000), s -> s.setRules(cover, 20, 10));
        String name = "use " + use + " at " + cover + " with " + guarantee;
        if (covered) {
            story.isAct(name, s -> s.enter(0, 0, 1, use), 0);
        } else {
            story.isRefused(name, s -> s.enter(0, 0, 1, use), 2);
        }
        Story there = Stories.owners(1, guarantee).and(s -> s.setRate(0, 1000), s -> s.setRules(0, 20, 10),
                s -> s.enter(0, 0, 1, use), s -> s.setRules(cover, 20, 10));
        there.answers(name + ", is it covered", s -> s.owner(0, 4), covered ? 1 : 0);
    }

    /** "The use is covered if use * cover / 100 is at most the guarantee." */
    private static void coveredIfAtMostTheGuarantee() {
        isCovered(20, 104, 20, true);
        isCovered(20, 105, 20, false);
        isCovered(20, 4, 0, true);
        isCovered(20, 5, 0, false);
        isCovered(100, 1, 0, false);
        isCovered(100, 20, 20, true);
        isCovered(100, 21, 20, false);
        isCovered(1, 99, 0, true);
        isCovered(1, 100, 0, false);
        isCovered(0, 10000000, 0, true);
        isCovered(100, 10000000, 10000000, true);
        isCovered(100, 10000000, 9999999, false);
    }

    /** "... this counts as it would be then, also if the act would not make it worse." */
    private static void countsAsItWouldBeThen() {
        Story story = Stories.owners(2, 20).and(s -> s.enter(0, 0, 1, 1000), s -> s.enter(1, 0, 1, 0),
                s -> s.enter(0, 0, 1, 0), s -> s.setRules(100, 20, 10));
        story.isRefused("a lot without a duty", s -> s.enter(0, 0, 1, 0), 2);
        story.isRefused("a given lot without a duty", s -> s.give(1, 0), 2);
        story.isRefused("a greater guarantee", s -> s.setGuarantee(0, 99), 2);
        story.isRefused("the same guarantee", s -> s.setGuarantee(0, 20), 2);
        story.isAct("a guarantee that suffices", s -> s.setGuarantee(0, 100), 20);
        story.isAct("given away by who is not covered", s -> s.give(2, 1), 0);
    }

    private static void deadline(int term, int day, int deadline) {
        Stories.owners(1, PLENTY).and(s -> s.setTerms(term, 1), s -> s.pass(day), s -> s.enter(0, 0, 1, 1))
                .answers("deadline of the term " + term + " on " + day, s -> s.lot(0, 5), deadline);
    }

    /** "... its deadline is the present day plus the term (1 to 1000, at first 100)." */
    private static void theTerm() {
        Story.of().answers("the term at first", s -> s.count(6), 100);
        Stories.oneLot().answers("deadline at first", s -> s.lot(0, 5), 100);
        deadline(1, 1, 2);
        deadline(1, 100, 101);
        deadline(1000, 1, 1001);
        deadline(1000, 100, 1100);
        Stories.owners(1, PLENTY).and(s -> s.pass(5), s -> s.enter(0, 0, 1, 1))
                .answers("the day of the entering", s -> s.lot(0, 4), 5);
    }

    /** "Releasing units pays their duty from the cash of the owner." */
    private static void releasingPaysFromTheCash() {
        Stories.oneLot(100).isAct("all the cash", s -> s.release(0, 7), 100);
        Stories.oneLot(100).and(s -> s.release(0, 7)).answers("none left", s -> s.owner(0, 0), 0);
        Stories.oneLot(101).and(s -> s.release(0, 7)).answers("a cent left", s -> s.owner(0, 0), 1);
        Stories.oneLot(99).isRefused("a cent too little", s -> s.release(0, 7), 3);
        Stories.oneLot(14).isAct("a part of it", s -> s.release(0, 1), 14);
        Stories.oneLot().isRefused("no cash, but a guarantee", s -> s.release(0, 1), 3);
    }

    private static void free(int quantity, int allowance, int free) {
        Story story = Stories.owners(1, PLENTY).and(s -> s.setRules(20, allowance, 10), s -> s.setRate(0, 1000),
                s -> s.enter(0, 0, quantity, 10000000));
        String name = " of " + quantity + " at " + allowance;
        if (free > 0) {
            story.isAct("the free units" + name, s -> s.sample(0, free), 0);
        }
        if (free < quantity) {
            story.isRefused("one more than free" + name, s -> s.sample(0, free + 1), 3);
            story.and(s -> s.sample(0, free)).isRefused("another one" + name, s -> s.sample(0, 1), 3);
        }
    }

    /** "Samples of a lot are free as long as all its samples together are at most Q * allowance / 1000 units ..." */
    private static void samplesAreFreeUpToANumber() {
        Story.of().answers("the allowance at first", s -> s.count(9), 20);
        free(49, 20, 0);
        free(50, 20, 1);
        free(99, 20, 1);
        free(100, 20, 2);
        free(10, 0, 0);
        free(10, 1000, 10);
        free(10, 999, 9);
        free(1, 999, 0);
        free(1, 1000, 1);
        free(1000000, 1000, 1000000);
        free(1000000, 999, 999000);
        Story story = Stories.oneLot(1000).and(s -> s.setRules(20, 430, 10));
        story.and(s -> s.release(0, 4)).isAct("units of releases are no samples", s -> s.sample(0, 3), 0);
        Story three = story.and(s -> s.sample(0, 3));
        three.isAct("the fourth", s -> s.sample(0, 1), 15);
        Story lowered = three.and(s -> s.setRules(20, 20, 10));
        lowered.isAct("more were taken than are free now", s -> s.sample(0, 1), 15);
        three.and(s -> s.setRules(20, 580, 10)).isAct("one more is free now", s -> s.sample(0, 2), 14);
        Story paid = Stories.oneLot(1000).and(s -> s.sample(0, 2), s -> s.setRules(20, 430, 10));
        paid.isAct("samples that were paid count too", s -> s.sample(0, 2), 15);
        story.and(s -> s.enter(0, 0, 7, 1000), s -> s.sample(0, 3)).isAct("each lot by itself", s -> s.sample(1, 3), 0);
    }

    /** "Of the units of a sample, first those that are free are taken ... each of both parts is found by itself." */
    private static void bothPartsOfASample() {
        Story story = Stories.oneLot(1000).and(s -> s.setRules(20, 300, 10));
        story.isAct("two are free", s -> s.sample(0, 2), 0);
        story.isAct("two free, one paid", s -> s.sample(0, 3), 14);
        Story first = story.and(s -> s.sample(0, 3));
        first.shows("the parts", (s, what) -> s.lot(0, 8 + what), 58, 14, 28, 3);
        Story later = story.and(s -> s.release(0, 1));
        later.isAct("two free, two paid", s -> s.sample(0, 4), 29);
        later.and(s -> s.sample(0, 4)).shows("the later parts", (s, what) -> s.lot(0, 8 + what), 29, 43, 28, 4);
        later.and(s -> s.sample(0, 4)).answers("the cash then", s -> s.owner(0, 0), 1000 - 14 - 29);
        Story exact = Stories.oneLot(14).and(s -> s.setRules(20, 300, 10));
        exact.isAct("cash for the part that is paid", s -> s.sample(0, 3), 14);
        Stories.oneLot(13).and(s -> s.setRules(20, 300, 10)).isRefused("a cent too little", s -> s.sample(0, 3), 3);
    }

    private static void proofDeadline(int proof, int day, int deadline) {
        Story story = Stories.oneLot().and(s -> s.setTerms(1000, proof)).and(s -> s.pass(day), s -> s.export(0, 1));
        story.answers("deadline of " + proof + " proof days on " + day, s -> s.exported(0, 3), deadline);
    }

    /** "... until its deadline: the present day plus the proof days (1 to 200, at first 30)." */
    private static void theProofDays() {
        Story.of().answers("the proof days at first", s -> s.count(7), 30);
        Stories.oneLot().and(s -> s.export(0, 1)).answers("deadline at first", s -> s.exported(0, 3), 30);
        proofDeadline(1, 1, 2);
        proofDeadline(1, 50, 51);
        proofDeadline(200, 1, 201);
        proofDeadline(200, 50, 250);
    }

    /** "There are at most 30 exports, numbered from 0. When it is proved, its duty is discharged." */
    private static void atMostThirtyExports() {
        Story story = Stories.owners(1, PLENTY).and(s -> s.enter(0, 0, 100, 10000));
        story.isAct("the first export", s -> s.export(0, 1), 0);
        story.isError("the export 0 of none", s -> s.exported(0, 0), Due.UNKNOWN);
        story.times(29, s -> s.export(0, 1)).isAct("the 30th", s -> s.export(0, 1), 29);
        story.times(29, s -> s.export(0, 1)).isError("the export 29 of 29", s -> s.exported(29, 0), Due.UNKNOWN);
        Story full = Stories.thirtyExports();
        full.isRefused("a 31st", s -> s.export(0, 1), 5);
        full.isError("the export 30 of 30", s -> s.exported(30, 0), Due.UNKNOWN);
        full.isAct("the last one proved", s -> s.prove(29), 10);
        full.and(s -> s.prove(29)).answers("discharged", s -> s.lot(0, 10), 10);
    }

    /** "Destroying units discharges their duty, and costs the fee (0 to 1000, at first 10) for each unit ..." */
    private static void theFee() {
        Story.of().answers("the fee at first", s -> s.count(10), 10);
        Stories.oneLot(70).isAct("all the cash", s -> s.destroy(0, 7), 100);
        Story destroyed = Stories.oneLot(71).and(s -> s.destroy(0, 7));
        destroyed.answers("a cent left", s -> s.owner(0, 0), 1);
        destroyed.answers("the fees", s -> s.account(5), 70);
        destroyed.answers("no duty is paid", s -> s.account(2), 0);
        Stories.oneLot(69).isRefused("a cent too little", s -> s.destroy(0, 7), 3);
        Stories.oneLot(10).isAct("one unit", s -> s.destroy(0, 1), 14);
        Stories.oneLot().and(s -> s.setRules(20, 20, 0)).isAct("without a fee", s -> s.destroy(0, 7), 100);
        Stories.oneLot(7000).and(s -> s.setRules(20, 20, 1000)).isAct("the greatest fee", s -> s.destroy(0, 7), 100);
        Stories.oneLot(6999).and(s -> s.setRules(20, 20, 1000)).isRefused("a cent less", s -> s.destroy(0, 7), 3);
    }

    /**
     * "Giving a lot to another owner gives its units in the store and its exports that wait to this
     * owner (a lot without such ones can be given, too)."
     */
    private static void givingWhatALotHas() {
        Story story = Stories.owners(2, PLENTY).and(s -> s.enter(0, 0, 7, 1000), s -> s.enter(0, 0, 7, 1000),
                s -> s.deposit(0, 100));
        Story given = story.and(s -> s.export(0, 2), s -> s.give(0, 1));
        given.shows("who gave", (s, what) -> s.owner(0, what), 100, PLENTY, 0, 100, 1, 1, 0);
        given.shows("who got", (s, what) -> s.owner(1, what), 0, PLENTY, 0, 100, 1, 1, 0);
        given.and(s -> s.pass(31)).answers("an export is called of who got", s -> s.owner(1, 6), 28);
        given.and(s -> s.pass(31)).answers("nothing of who gave", s -> s.owner(0, 6), 0);
        given.isRefused("who got pays", s -> s.release(0, 1), 3);
        Story waiting = story.and(s -> s.export(0, 7), s -> s.give(0, 1));
        waiting.answers("only exports", s -> s.owner(1, 3), 100);
        waiting.answers("no lot in the store", s -> s.owner(1, 5), 0);
        Story proved = story.and(s -> s.export(0, 7), s -> s.prove(0));
        proved.isAct("a lot that is used up by an export", s -> s.give(0, 1), 0);
        proved.and(s -> s.give(0, 1)).answers("has no use", s -> s.owner(1, 3), 0);
        story.and(s -> s.release(0, 7)).isAct("that is released", s -> s.give(0, 1), 0);
        Story lost = story.and(s -> s.pass(100), s -> s.pass(1));
        lost.isAct("that was seized", s -> s.give(0, 1), 0);
        lost.and(s -> s.give(0, 1)).answers("what was called stays with who gave", s -> s.owner(0, 6), 200);
        lost.and(s -> s.give(0, 1)).answers("and is not called of who got", s -> s.owner(1, 6), 0);
    }

    /** "each export that waits and whose deadline is less than the day is lost" */
    private static void deadlinesOfExports() {
        Story story = Stories.oneLot().and(s -> s.setTerms(1000, 12), s -> s.export(0, 2));
        story.isAct("to the deadline", s -> s.pass(12), 0);
        story.isAct("a day more", s -> s.pass(13), 28);
        Story last = story.and(s -> s.pass(12));
        last.answers("it waits", s -> s.exported(0, 4), 0);
        last.isAct("it can be proved", s -> s.prove(0), 28);
        last.isAct("the day after", s -> s.pass(1), 28);
        last.and(s -> s.pass(1)).answers("it is lost", s -> s.exported(0, 4), 2);
        last.and(s -> s.pass(1)).isRefused("it can't be proved", s -> s.prove(0), 6);
        last.and(s -> s.pass(1)).isAct("it is called once", s -> s.pass(87), 0);
        last.and(s -> s.prove(0)).isAct("a proved one is not lost", s -> s.pass(1), 0);
        last.and(s -> s.prove(0), s -> s.pass(1)).answers("it stays proved", s -> s.exported(0, 4), 1);
        Story.of().answers("the day at first", s -> s.count(0), 0);
        Story.of(s -> s.pass(1)).answers("one day", s -> s.count(0), 1);
        Story.of(s -> s.pass(100)).answers("a hundred days", s -> s.count(0), 100);
    }

    /** "then each lot with units in the store and a deadline less than the day is seized" */
    private static void deadlinesOfLots() {
        Story story = Stories.oneLot();
        story.isAct("to the deadline", s -> s.pass(100), 0);
        Story last = story.and(s -> s.pass(100));
        last.shows("not seized", (s, what) -> s.lot(0, 7 + what), 7, 100, 0, 0);
        last.answers("no lot was seized", s -> s.count(5), 0);
        last.isAct("the day after", s -> s.pass(1), 100);
        Story seized = last.and(s -> s.pass(1));
        seized.shows("seized", (s, what) -> s.lot(0, 7 + what), 0, 0, 100, 0);
        seized.answers("a lot was seized", s -> s.count(5), 1);
        seized.isRefused("nothing is in the store", s -> s.export(0, 1), 4);
        seized.isAct("it is seized once", s -> s.pass(100), 0);
        seized.and(s -> s.pass(100)).answers("and counted once", s -> s.count(5), 1);
    }

    /** "all its units in the store are taken": those that wait for a proof are not. */
    private static void exportsOutliveTheirLot() {
        Story story = Stories.oneLot().and(s -> s.setTerms(100, 50), s -> s.pass(80), s -> s.export(0, 2),
                s -> s.pass(20));
        story.isAct("the lot is seized", s -> s.pass(1), 72);
        Story seized = story.and(s -> s.pass(1));
        seized.answers("the export waits", s -> s.exported(0, 4), 0);
        seized.answers("its duty is suspended", s -> s.lot(0, 8), 28);
        seized.isAct("it is proved", s -> s.prove(0), 28);
        seized.isAct("it is lost", s -> s.pass(30), 28);
        seized.isAct("it is not lost yet", s -> s.pass(29), 0);
    }

    /** "each lot with units in the store" is seized: no lot that is used up, but one without a duty. */
    private static void seizedLots() {
        Story story = Stories.oneLot(1000).and(s -> s.release(0, 7), s -> s.enter(0, 0, 5, 0), s -> s.enter(0, 0, 5, 9),
                s -> s.pass(100));
        story.isAct("nothing is called", s -> s.pass(1), 0);
        story.and(s -> s.pass(1)).answers("two lots were seized", s -> s.count(5), 2);
        story.and(s -> s.pass(1)).answers("their units were taken", s -> s.lot(1, 7), 0);
        story.and(s -> s.pass(1)).answers("no lot is in the store", s -> s.owner(0, 5), 0);
    }

    private static Story called(int guarantee) {
        return Stories.owners(1, guarantee).and(s -> s.deposit(0, 500), s -> s.enter(0, 0, 7, 1000),
                s -> s.setRules(0, 20, 10), s -> s.pass(100), s -> s.pass(1));
    }

    /** "Calling a duty ... pays it from the guarantee, as far as it suffices; the rest increases the debt." */
    private static void callingADuty() {
        called(101).shows("a guarantee of 101", (s, what) -> s.owner(0, what), 500, 1, 0, 0, 1, 0, 100);
        called(100).shows("a guarantee of 100", (s, what) -> s.owner(0, what), 500, 0, 0, 0, 1, 0, 100);
        called(99).shows("a guarantee of 99", (s, what) -> s.owner(0, what), 500, 0, 1, 0, 1, 0, 100);
        called(20).shows("a guarantee of 20", (s, what) -> s.owner(0, what), 500, 0, 80, 0, 1, 0, 100);
        for (int guarantee : new int[] {20, 99, 100, 101}) {
            called(guarantee).answers("the whole duty counts as paid", s -> s.account(2), 100);
            called(guarantee).answers("and as called", s -> s.account(4), 100);
            called(guarantee).answers("nothing is a deposit", s -> s.account(6), 500);
        }
    }

    /** Several duties of an owner, in one day and in several. */
    private static void callingSeveralDuties() {
        Story story = Stories.owners(2, 50).and(s -> s.setTerms(10, 10), s -> s.enter(0, 0, 7, 1000),
                s -> s.enter(1, 0, 7, 1000), s -> s.export(0, 3), s -> s.setTerms(20, 10), s -> s.enter(0, 0, 1, 1000));
        Story first = story.and(s -> s.pass(11));
        story.isAct("an export and two lots", s -> s.pass(11), 200);
        first.shows("its owner", (s, what) -> s.owner(0, what), 0, 0, 50, 100, 0, 1, 100);
        first.shows("the other owner", (s, what) -> s.owner(1, what), 0, 0, 50, 0, 1, 0, 100);
        first.isAct("the last lot", s -> s.pass(10), 100);
        first.and(s -> s.pass(10)).shows("then", (s, what) -> s.owner(0, what), 0, 0, 150, 0, 1, 0, 200);
        story.isAct("all in one call", s -> s.pass(21), 300);
        story.and(s -> s.pass(21)).isLike("one call or two", first.and(s -> s.pass(10)));
        story.and(s -> s.pass(21)).isLike("one call or many", story.times(21, s -> s.pass(1)));
    }
}
