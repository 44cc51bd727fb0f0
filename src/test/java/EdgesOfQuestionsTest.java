/**
 * "DOCUMENTS" and promises 22 to 32: for each argument the last value that is allowed and the first
 * that is not, at both ends, and the edges of what is answered. No question changes anything.
 */
public final class EdgesOfQuestionsTest {
    private static final int PLENTY = Stories.PLENTY;
    private static final int MIN = Integer.MIN_VALUE;
    private static final int MAX = Integer.MAX_VALUE;
    private static final Story BUSY = Stories.busy();

    private EdgesOfQuestionsTest() {
    }

    public static void main(String[] args) {
        promise22Owner();
        promise22LotsInTheStore();
        promise23Lot();
        promise24Exported();
        promise25DocumentLength();
        promise26DocumentAt();
        documentsOfNumbers();
        documentsWithAWarning();
        documentsWithoutAWarning();
        promise27NextDeadline();
        promise27WhatComesFirst();
        promise28CalledIn();
        promise28Deadlines();
        promise29GreatestValue();
        promise29Edges();
        promise30Account();
        promise31Count();
        promise32Rate();
        Due.end();
    }

    private interface Property {
        long of(BondedStore store, int number, int what);
    }

    /** "Returns the property; UNKNOWN; BAD_VALUE." */
    private static void property(String name, Property property, int count, int lastWhat) {
        for (int number : new int[] {-1, count, count + 1, 29, 30, MIN, MAX}) {
            BUSY.isError(name + " " + number, s -> property.of(s, number, 0), Due.UNKNOWN);
            BUSY.isError(name + " " + number + " ahead of what", s -> property.of(s, number, -1), Due.UNKNOWN);
            BUSY.isError(name + " " + number + " ahead of what", s -> property.of(s, number, MAX), Due.UNKNOWN);
        }
        for (int what : new int[] {-1, lastWhat + 1, MIN, MAX}) {
            BUSY.isError(name + ", what " + what, s -> property.of(s, 0, what), Due.BAD_VALUE);
            BUSY.isError(name + ", what " + what, s -> property.of(s, count - 1, what), Due.BAD_VALUE);
        }
        Story.of().isError(name + " 0 of a new store", s -> property.of(s, 0, 0), Due.UNKNOWN);
    }

    private static void promise22Owner() {
        property("owner", (s, owner, what) -> s.owner(owner, what), 3, 6);
        int[] first = {475, 999972, 0, 58 + 475, 1, 2, 28};
        int[] last = {0, 0, 0, 0, 1, 0, 0};
        for (int i = 0; i < first.length; i++) {
            int what = i;
            BUSY.isQuestion("owner(0, " + what + ")", s -> s.owner(0, what), first[what]);
            BUSY.isQuestion("owner(2, " + what + ")", s -> s.owner(2, what), last[what]);
        }
    }

    /** "5 for the number of lots with units in the store" */
    private static void promise22LotsInTheStore() {
        Story lots = Stories.owners(2, PLENTY).times(30, s -> s.enter(0, 0, 2, 0));
        lots.answers("thirty", s -> s.owner(0, 5), 30);
        lots.answers("none", s -> s.owner(1, 5), 0);
        lots.and(s -> s.release(29, 1)).answers("one unit left", s -> s.owner(0, 5), 30);
        lots.and(s -> s.release(29, 2)).answers("released", s -> s.owner(0, 5), 29);
        lots.and(s -> s.export(29, 2)).answers("waiting", s -> s.owner(0, 5), 29);
        lots.and(s -> s.give(29, 1)).answers("given", s -> s.owner(1, 5), 1);
        lots.and(s -> s.pass(100)).answers("on the deadline", s -> s.owner(0, 5), 30);
        lots.and(s -> s.pass(100), s -> s.pass(1)).answers("seized", s -> s.owner(0, 5), 0);
    }

    private static void promise23Lot() {
        property("lot", (s, lot, what) -> s.lot(lot, what), 3, 12);
        int[] first = {0, 0, 7, 1000, 0, 40, 100, 4, 58, 28, 14, 0, 0};
        int[] second = {1, 1, 10, 1000, 0, 40, 100, 7, 100, 0, 0, 0, 3};
        int[] last = {0, 2, 20, 5000, 11, 51, 500, 19, 475, 25, 0, 0, 0};
        for (int i = 0; i < first.length; i++) {
            int what = i;
            BUSY.isQuestion("lot(0, " + what + ")", s -> s.lot(0, what), first[what]);
            BUSY.isQuestion("lot(1, " + what + ")", s -> s.lot(1, what), second[what]);
            BUSY.isQuestion("lot(2, " + what + ")", s -> s.lot(2, what), last[what]);
        }
        Story sampled = BUSY.and(s -> s.sample(2, 2), s -> s.sample(2, 3), s -> s.export(2, 1), s -> s.export(2, 4));
        sampled.answers("units of all samples", s -> s.lot(2, 11), 5);
        sampled.answers("units of all exports that wait", s -> s.lot(2, 12), 5);
        sampled.and(s -> s.prove(3)).answers("without the proved", s -> s.lot(2, 12), 4);
        sampled.and(s -> s.pass(11)).answers("without the lost", s -> s.lot(2, 12), 0);
        sampled.and(s -> s.pass(10)).answers("on their deadline", s -> s.lot(2, 12), 5);
    }

    private static void promise24Exported() {
        property("exported", (s, export, what) -> s.exported(export, what), 3, 4);
        int[][] want = {{0, 2, 28, 10, 2}, {0, 1, 14, 10, 1}, {1, 3, 30, 21, 0}};
        for (int i = 0; i < want.length; i++) {
            int export = i;
            for (int j = 0; j < want[i].length; j++) {
                int what = j;
                BUSY.isQuestion("exported(" + i + ", " + j + ")", s -> s.exported(export, what), want[i][j]);
            }
        }
    }

    private static void promise25DocumentLength() {
        for (int lot : new int[] {-1, 3, 29, 30, MIN, MAX}) {
            BUSY.isError("documentLength(" + lot + ")", s -> s.documentLength(lot), Due.UNKNOWN);
        }
        Story.of().isError("documentLength(0)", s -> s.documentLength(0), Due.UNKNOWN);
        BUSY.isQuestion("L0/0:4+0", s -> s.documentLength(0), 8);
        BUSY.isQuestion("L2/0:19+0", s -> s.documentLength(2), 9);
    }

    /** "UNKNOWN; BAD_VALUE if index is negative; NONE if the document is not so long" */
    private static void promise26DocumentAt() {
        for (int lot : new int[] {-1, 3, 29, 30, MIN, MAX}) {
            BUSY.isError("lot " + lot, s -> s.documentAt(lot, 0), Due.UNKNOWN);
            BUSY.isError("lot " + lot + " ahead of the index", s -> s.documentAt(lot, -1), Due.UNKNOWN);
            BUSY.isError("lot " + lot + " ahead of the end", s -> s.documentAt(lot, 100), Due.UNKNOWN);
        }
        for (int index : new int[] {-1, -2, MIN}) {
            BUSY.isError("index " + index, s -> s.documentAt(0, index), Due.BAD_VALUE);
        }
        for (int index : new int[] {8, 9, 80, MAX}) {
            BUSY.isError("index " + index, s -> s.documentAt(0, index), Due.NONE);
        }
        BUSY.isQuestion("the first character", s -> s.documentAt(0, 0), 'L');
        BUSY.isQuestion("the last character", s -> s.documentAt(0, 7), '0');
        BUSY.isQuestion("the last of another", s -> s.documentAt(2, 8), '0');
        BUSY.and(s -> s.documentLength(2)).isQuestion("after another document", s -> s.documentAt(1, 5), '7');
        BUSY.document(0, "L0/0:4+0");
        BUSY.document(1, "L1/1:7+3");
        BUSY.document(2, "L2/0:19+0");
    }

    /** "numbers are written without zeros in front" */
    private static void documentsOfNumbers() {
        Story one = Stories.owners(5, PLENTY).and(s -> s.enter(4, 0, 1000000, 0));
        one.document(0, "L0/4:1000000+0");
        one.and(s -> s.export(0, 1000000)).document(0, "L0/4:0+1000000");
        one.and(s -> s.export(0, 999999)).document(0, "L0/4:1+999999");
        one.and(s -> s.export(0, 1)).document(0, "L0/4:999999+1");
        one.and(s -> s.export(0, 9), s -> s.export(0, 1)).document(0, "L0/4:999990+10");
        one.and(s -> s.export(0, 100), s -> s.export(0, 100), s -> s.prove(0)).document(0, "L0/4:999800+100");
        one.and(s -> s.destroy(0, 1), s -> s.give(0, 0)).document(0, "L0/0:1000000+0");
        Story lots = one.times(29, s -> s.enter(3, 0, 105, 0));
        lots.document(9, "L9/3:105+0");
        lots.document(10, "L10/3:105+0");
        lots.document(20, "L20/3:105+0");
        lots.document(29, "L29/3:105+0");
        lots.and(s -> s.export(10, 5)).document(10, "L10/3:100+5");
        lots.and(s -> s.export(10, 5)).document(1, "L1/3:105+0");
    }

    /** "and then "!" if ... its deadline or that of such an export is at most 7 days after the present day" */
    private static void documentsWithAWarning() {
        Story story = Stories.owners(1, PLENTY).and(s -> s.setTerms(20, 200), s -> s.enter(0, 0, 10, 10));
        story.and(s -> s.pass(12)).document(0, "L0/0:10+0");
        story.and(s -> s.pass(13)).document(0, "L0/0:10+0!");
        story.and(s -> s.pass(19)).document(0, "L0/0:10+0!");
        story.and(s -> s.pass(20)).document(0, "L0/0:10+0!");
        story.and(s -> s.pass(21)).document(0, "L0/0:0+0");
        Story export = story.and(s -> s.setTerms(20, 10), s -> s.export(0, 3));
        export.and(s -> s.pass(2)).document(0, "L0/0:7+3");
        export.and(s -> s.pass(3)).document(0, "L0/0:7+3!");
        export.and(s -> s.pass(10)).document(0, "L0/0:7+3!");
        export.and(s -> s.pass(11)).document(0, "L0/0:7+0");
        export.and(s -> s.pass(3), s -> s.prove(0)).document(0, "L0/0:7+0");
        Story both = export.and(s -> s.setTerms(20, 100), s -> s.export(0, 1));
        both.and(s -> s.pass(2)).document(0, "L0/0:6+4");
        both.and(s -> s.pass(3)).document(0, "L0/0:6+4!");
        both.and(s -> s.pass(11)).document(0, "L0/0:6+1");
        both.and(s -> s.pass(13)).document(0, "L0/0:6+1!");
        Story later = story.and(s -> s.setTerms(20, 100), s -> s.export(0, 1), s -> s.setTerms(20, 10),
                s -> s.export(0, 3));
        later.and(s -> s.pass(3)).document(0, "L0/0:6+4!");
        Stories.owners(1, PLENTY).and(s -> s.setTerms(7, 1), s -> s.enter(0, 0, 1, 0)).document(0, "L0/0:1+0!");
        Stories.owners(1, PLENTY).and(s -> s.setTerms(8, 1), s -> s.enter(0, 0, 1, 0)).document(0, "L0/0:1+0");
    }

    /** "(Its deadline counts only if it has units in the store.)" and "if one of both is more than 0" */
    private static void documentsWithoutAWarning() {
        Story story = Stories.owners(1, PLENTY).and(s -> s.setTerms(20, 200), s -> s.enter(0, 0, 10, 10),
                s -> s.deposit(0, 1000));
        Story waiting = story.and(s -> s.export(0, 10), s -> s.pass(20));
        waiting.document(0, "L0/0:0+10");
        waiting.and(s -> s.pass(1)).document(0, "L0/0:0+10");
        waiting.and(s -> s.pass(100), s -> s.pass(72)).document(0, "L0/0:0+10");
        waiting.and(s -> s.pass(100), s -> s.pass(73)).document(0, "L0/0:0+10!");
        waiting.and(s -> s.prove(0)).document(0, "L0/0:0+0");
        story.and(s -> s.export(0, 9), s -> s.pass(20)).document(0, "L0/0:1+9!");
        story.and(s -> s.release(0, 10), s -> s.pass(15)).document(0, "L0/0:0+0");
        story.and(s -> s.release(0, 10)).document(0, "L0/0:0+0");
        Story other = story.and(s -> s.setTerms(1000, 5), s -> s.enter(0, 0, 10, 10), s -> s.export(0, 10));
        other.document(0, "L0/0:0+10!");
        other.document(1, "L1/0:10+0");
    }

    /** "NONE if there are none" */
    private static void promise27NextDeadline() {
        Story.of().isError("no lot", s -> s.nextDeadline(), Due.NONE);
        BUSY.isQuestion("an export", s -> s.nextDeadline(), 102);
        Story story = Stories.oneLot(1000);
        story.isQuestion("a lot", s -> s.nextDeadline(), 0);
        story.and(s -> s.release(0, 6)).isQuestion("its last unit", s -> s.nextDeadline(), 0);
        story.and(s -> s.release(0, 7)).isError("an empty lot", s -> s.nextDeadline(), Due.NONE);
        Story waiting = story.and(s -> s.export(0, 7));
        waiting.isQuestion("its export", s -> s.nextDeadline(), 100);
        waiting.and(s -> s.prove(0)).isError("a proved export", s -> s.nextDeadline(), Due.NONE);
        waiting.and(s -> s.pass(30)).isQuestion("on its deadline", s -> s.nextDeadline(), 100);
        waiting.and(s -> s.pass(31)).isError("a lost export", s -> s.nextDeadline(), Due.NONE);
        story.and(s -> s.pass(100)).isQuestion("on the deadline", s -> s.nextDeadline(), 0);
        story.and(s -> s.pass(100), s -> s.pass(1)).isError("a seized lot", s -> s.nextDeadline(), Due.NONE);
        Stories.thirtyExports().and(s -> s.release(0, 70)).isQuestion("30 exports", s -> s.nextDeadline(), 100);
        Story last = Stories.thirtyExports().and(s -> s.deposit(0, 1000), s -> s.release(0, 70));
        for (int i = 0; i < 29; i++) {
            int export = i;
            last = last.and(s -> s.prove(export));
        }
        last.isQuestion("the last of 30 exports", s -> s.nextDeadline(), 129);
        Stories.owners(1, 0).and(s -> s.setTerms(1000, 200), s -> s.enter(0, 0, 1, 0))
                .isQuestion("the latest deadline", s -> s.nextDeadline(), 0);
    }

    /** "the one with the least deadline, of several lots ahead of exports, and of these the lowest one" */
    private static void promise27WhatComesFirst() {
        Story lots = Stories.owners(1, PLENTY).and(s -> s.setTerms(20, 20), s -> s.enter(0, 0, 9, 0),
                s -> s.enter(0, 0, 9, 0));
        lots.answers("the lowest of lots", s -> s.nextDeadline(), 0);
        lots.and(s -> s.setTerms(19, 20), s -> s.enter(0, 0, 9, 0)).answers("the least", s -> s.nextDeadline(), 2);
        lots.and(s -> s.setTerms(21, 20), s -> s.enter(0, 0, 9, 0)).answers("the least", s -> s.nextDeadline(), 0);
        lots.and(s -> s.export(1, 1)).answers("lots ahead of exports", s -> s.nextDeadline(), 0);
        lots.and(s -> s.export(0, 9)).answers("a later lot ahead of exports", s -> s.nextDeadline(), 1);
        Story exports = lots.and(s -> s.export(1, 9), s -> s.export(0, 9));
        exports.answers("the lowest of exports", s -> s.nextDeadline(), 100);
        exports.and(s -> s.prove(0)).answers("the other one", s -> s.nextDeadline(), 101);
        Story sooner = lots.and(s -> s.setTerms(20, 19), s -> s.export(1, 1));
        sooner.answers("an export that is sooner", s -> s.nextDeadline(), 100);
        Story soonest = sooner.and(s -> s.setTerms(20, 18), s -> s.export(1, 1));
        soonest.answers("a later export that is sooner", s -> s.nextDeadline(), 101);
        soonest.and(s -> s.pass(19)).answers("when it is lost", s -> s.nextDeadline(), 100);
        soonest.and(s -> s.pass(20)).answers("when both are lost", s -> s.nextDeadline(), 0);
    }

    /** "days: 1 to 100", "BAD_VALUE", "Nothing changes." */
    private static void promise28CalledIn() {
        for (int days : new int[] {0, -1, 101, MIN, MAX}) {
            BUSY.isError("calledIn(" + days + ")", s -> s.calledIn(days), Due.BAD_VALUE);
        }
        BUSY.isQuestion("the least", s -> s.calledIn(1), 0);
        BUSY.isQuestion("the greatest", s -> s.calledIn(100), 58 + 100 + 475);
        Story.of().isQuestion("nothing", s -> s.calledIn(100), 0);
    }

    /** "the duty that would be called in the next days, if nothing else were done" */
    private static void promise28Deadlines() {
        BUSY.isQuestion("to the deadline of an export", s -> s.calledIn(10), 0);
        BUSY.isQuestion("a day more", s -> s.calledIn(11), 30);
        BUSY.isQuestion("to the deadline of two lots", s -> s.calledIn(29), 30);
        BUSY.isQuestion("a day more", s -> s.calledIn(30), 158);
        BUSY.isQuestion("to the last deadline", s -> s.calledIn(40), 158);
        BUSY.isQuestion("a day more", s -> s.calledIn(41), 633);
        Stories.oneLot().isQuestion("a hundred days", s -> s.calledIn(100), 0);
        Stories.oneLot().and(s -> s.pass(1)).isQuestion("a hundred and one", s -> s.calledIn(100), 100);
        for (int i = 1; i <= 100; i++) {
            int days = i;
            BUSY.isAct("pass(" + days + ")", s -> s.pass(days), BUSY.told().calledIn(days));
        }
    }

    /** "UNKNOWN; NONE if not even the value 0 could" */
    private static void promise29GreatestValue() {
        Story uncovered = BUSY.and(s -> s.setRules(100, 20, 10));
        for (Story story : new Story[] {BUSY, uncovered}) {
            for (int owner : new int[] {-1, 3, 4, 5, MIN, MAX}) {
                story.isError("owner " + owner, s -> s.greatestValue(owner, 0), Due.UNKNOWN);
            }
            for (int kind : new int[] {-1, 6, MIN, MAX}) {
                story.isError("kind " + kind, s -> s.greatestValue(1, kind), Due.UNKNOWN);
            }
        }
        uncovered.isError("not even 0", s -> s.greatestValue(1, 0), Due.NONE);
        uncovered.and(s -> s.setRate(0, 0)).isError("not even 0 at the rate 0", s -> s.greatestValue(1, 0), Due.NONE);
        BUSY.isQuestion("204 at 20 of 40", s -> s.greatestValue(1, 0), 1049);
        BUSY.isQuestion("of the last kind", s -> s.greatestValue(1, 5), 1049);
        BUSY.isQuestion("without a guarantee", s -> s.greatestValue(2, 0), 49);
        BUSY.isQuestion("with plenty", s -> s.greatestValue(0, 0), 10000000);
        BUSY.and(s -> s.setRate(5, 1000)).isQuestion("at 1000", s -> s.greatestValue(1, 5), 104);
        BUSY.and(s -> s.setRate(5, 1)).isQuestion("at 1", s -> s.greatestValue(1, 5), 104999);
        BUSY.and(s -> s.setRate(5, 0)).isQuestion("at 0", s -> s.greatestValue(1, 5), 10000000);
        BUSY.and(s -> s.setRules(0, 20, 10)).isQuestion("at cover 0", s -> s.greatestValue(2, 0), 10000000);
    }

    private static void greatest(int cover, int guarantee, int value) {
        Story story = Stories.owners(1, guarantee).and(s -> s.setRate(0, 1000), s -> s.setRules(cover, 20, 10));
        String name = "cover " + cover + ", guarantee " + guarantee;
        story.isQuestion("greatest value, " + name, s -> s.greatestValue(0, 0), value);
        story.isAct("it can be entered, " + name, s -> s.enter(0, 0, 1, value), 0);
        if (value < 10000000) {
            story.isRefused("one more, " + name, s -> s.enter(0, 0, 1, value + 1), 2);
            story.and(s -> s.enter(0, 0, 1, value)).isQuestion("no more, " + name, s -> s.greatestValue(0, 0), 0);
        }
    }

    /** "the greatest value ... as far as the reason 2 is concerned", "0 to 10000000" */
    private static void promise29Edges() {
        greatest(100, 0, 0);
        greatest(100, 1, 1);
        greatest(100, 9999998, 9999998);
        greatest(100, 9999999, 9999999);
        greatest(100, 10000000, 10000000);
        greatest(100, 10000001, 10000000);
        greatest(100, 100000000, 10000000);
        greatest(1, 0, 99);
        greatest(1, 99999, 9999999);
        greatest(1, 100000, 10000000);
        greatest(99, 98, 99);
        greatest(0, 0, 10000000);
        Story debtor = Stories.debtor();
        debtor.isQuestion("a debt plays no part", s -> s.greatestValue(0, 0), 49);
        Stories.withLots(debtor, 1, 1, 30).isQuestion("30 lots play no part", s -> s.greatestValue(1, 0), 1049);
        Stories.oneLot().and(s -> s.setRules(99, 20, 10), s -> s.setGuarantee(0, 99))
                .isQuestion("a use of 100 at 99", s -> s.greatestValue(0, 0), 19);
    }

    private static void promise30Account() {
        for (int account : new int[] {-1, 7, MIN, MAX}) {
            BUSY.isError("account(" + account + ")", s -> s.account(account), Due.BAD_VALUE);
        }
        Story story = BUSY.and(s -> s.destroy(2, 2));
        int[] want = {700, 58 + 100 + 425, 28 + 25, 14 + 50, 28, 20, 500};
        for (int i = 0; i < want.length; i++) {
            int account = i;
            story.isQuestion("account(" + i + ")", s -> s.account(account), want[i]);
        }
        Story.of().shows("accounts at first", (s, account) -> s.account(account), 0, 0, 0, 0, 0, 0, 0);
        Stories.debtor().and(s -> s.deposit(0, 80), s -> s.deposit(0, 80))
                .answers("with what paid debts", s -> s.account(6), 160);
    }

    private static void promise31Count() {
        for (int what : new int[] {-1, 13, MIN, MAX}) {
            BUSY.isError("count(" + what + ")", s -> s.count(what), Due.BAD_VALUE);
        }
        int[] want = {11, 3, 3, 3, 1, 0, 40, 10, 20, 20, 10, 6, 6};
        for (int i = 0; i < want.length; i++) {
            int what = i;
            BUSY.isQuestion("count(" + i + ")", s -> s.count(what), want[i]);
        }
        Story.of().shows("counts at first", (s, what) -> s.count(what), 0, 0, 0, 0, 0, 0, 100, 30, 20, 20, 10, 0, 0);
        Story later = BUSY.and(s -> s.pass(30));
        later.answers("lots that were seized", s -> s.count(5), 2);
        later.answers("exports that wait", s -> s.count(4), 0);
        Stories.thirtyExports().answers("30 exports that wait", s -> s.count(4), 30);
    }

    private static void promise32Rate() {
        for (int kind : new int[] {-1, 6, MIN, MAX}) {
            BUSY.isError("rate(" + kind + ")", s -> s.rate(kind), Due.UNKNOWN);
        }
        Story rates = BUSY.and(s -> s.setRate(0, 0), s -> s.setRate(5, 1000));
        rates.isQuestion("the first kind", s -> s.rate(0), 0);
        rates.isQuestion("the last kind", s -> s.rate(5), 1000);
        rates.isQuestion("another kind", s -> s.rate(1), 100);
    }
}
