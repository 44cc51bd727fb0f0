/** Stories that several tests begin with. */
final class Stories {
    static final int PLENTY = 100000000;

    private Stories() {
    }

    /** Owners with the same guarantee each. */
    static Story owners(int owners, int guarantee) {
        Story story = Story.of();
        for (int i = 0; i < owners; i++) {
            int owner = i;
            story = story.and(s -> s.addOwner(), s -> s.setGuarantee(owner, guarantee));
        }
        return story;
    }

    /**
     * Three owners, the last without a guarantee; lots 0 to 2 of which each is in use; the exports 0
     * lost, 1 proved and 2 waiting; the slot 0 kept, the history full, the reason 6, and a text.
     */
    static Story busy() {
        return Story.of(
                s -> s.addOwner(), s -> s.addOwner(), s -> s.addOwner(),
                s -> s.setGuarantee(0, 1000000), s -> s.setGuarantee(1, 40), s -> s.deposit(0, 500),
                s -> s.setTerms(40, 10), s -> s.enter(0, 0, 7, 1000), s -> s.enter(1, 1, 10, 1000),
                s -> s.export(0, 2), s -> s.export(0, 1), s -> s.prove(1), s -> s.keep(0), s -> s.pass(11),
                s -> s.export(1, 3), s -> s.enter(0, 2, 20, 5000), s -> s.release(2, 1)
        ).text("days 1;release 2 1").and(s -> s.prove(1));
    }

    /** One owner with a lot of 7 units and the duty 100, and three states in the history. */
    static Story oneLot() {
        return owners(1, PLENTY).and(s -> s.enter(0, 0, 7, 1000));
    }

    /** The same with an amount of cash. */
    static Story oneLot(int cash) {
        return oneLot().and(s -> s.deposit(0, cash));
    }

    /** The owner 0 has a debt of 84 and no guarantee, the owner 1 a guarantee of 20; one lot is used up. */
    static Story debtor() {
        return owners(2, 20).and(s -> s.setTerms(1, 1), s -> s.enter(0, 0, 1, 1049), s -> s.pass(2),
                s -> s.setTerms(1000, 200));
    }

    /** Lots without a duty up to a number of them. */
    static Story withLots(Story story, int owner, int from, int lots) {
        return story.times(lots - from, s -> s.enter(owner, 0, 1, 0));
    }

    /** One lot of 100 units with the duty 1000, of which 30 are exported one by one. */
    static Story thirtyExports() {
        return owners(1, PLENTY).and(s -> s.enter(0, 0, 100, 10000)).times(30, s -> s.export(0, 1));
    }
}
