/** Compares answers with those that are due, for the tests beside it. */
final class Due {
    static final int UNKNOWN = -100000001;
    static final int BAD_VALUE = -100000002;
    static final int REFUSED = -100000003;
    static final int FULL = -100000004;
    static final int NONE = -100000005;

    private static int wrong = 0;
    private static int seen = 0;

    private Due() {
    }

    static void is(String call, long got, long want) {
        seen++;
        if (got != want) {
            wrong++;
            System.out.println(call + " answered " + got + ", due is " + want);
        }
    }

    static void isTrue(String fact, boolean holds) {
        is(fact, holds ? 1 : 0, 1);
    }

    /** A refusal is looked at with its reason; the reason before it must be another one to tell. */
    static void refused(String call, BondedStore store, int got, int reason) {
        is(call, got, REFUSED);
        is(call + ", reason", store.count(11), reason);
    }

    /** A store with owners of which each has a guarantee. */
    static BondedStore storeOf(int owners, int guarantee) {
        BondedStore store = new BondedStore();
        for (int i = 0; i < owners; i++) {
            is("addOwner()", store.addOwner(), i);
            is("setGuarantee(" + i + ")", store.setGuarantee(i, guarantee), 0);
        }
        return store;
    }

    static void write(BondedStore store, String text) {
        store.clearText();
        for (int i = 0; i < text.length(); i++) {
            is("type in '" + text + "'", store.type(text.charAt(i)), i + 1);
        }
    }

    static int run(BondedStore store, String text) {
        write(store, text);
        return store.runOrders();
    }

    static String document(BondedStore store, int lot) {
        StringBuilder read = new StringBuilder();
        int length = store.documentLength(lot);
        for (int i = 0; i < length; i++) {
            read.append((char) store.documentAt(lot, i));
        }
        is("documentAt at the end", store.documentAt(lot, length), NONE);
        return read.toString();
    }

    static void end() {
        System.out.println(seen + " answers looked at, " + wrong + " wrong");
        if (wrong != 0) {
            System.exit(1);
        }
    }
}
