/**
 * All promises together: long runs of calls by a fixed row of numbers, each answer and then all that
 * can be asked compared with LiteralStore.
 */
public final class ModelTest {
    private static final int RUNS = 400;
    private static final int CALLS = 300;
    private static final int[] EXTREMES = {-1, 0, Integer.MIN_VALUE, Integer.MAX_VALUE, 1000001, 10000001, 100000001};
    private static final String[] WORDS = {"release", "sample", "export", "destroy"};
    private static final String SIGNS = "0159 ;;  enterdays-x";

    private final BondedStore store = new BondedStore();
    private final LiteralStore model = new LiteralStore();
    private final int style;
    private long seed;

    private ModelTest(int run) {
        style = run % 4;
        seed = 7919L * run + 1;
    }

    public static void main(String[] args) {
        for (int run = 0; run < RUNS; run++) {
            ModelTest test = new ModelTest(run);
            for (int call = 0; call < CALLS; call++) {
                test.call("run " + run + ", call " + call + ", ");
                test.compareAll("run " + run + ", call " + call + ", then ");
            }
        }
        Due.end();
    }

    private int below(int bound) {
        seed = seed * 6364136223846793005L + 1442695040888963407L;
        return (int) ((seed >>> 33) % bound);
    }

    private int number(int least, int most) {
        int dice = below(40);
        if (dice == 0) {
            return EXTREMES[below(EXTREMES.length)];
        }
        if (dice == 1) {
            return below(2) == 0 ? least - 1 : most + 1;
        }
        if (dice < 5) {
            return below(2) == 0 ? least : most;
        }
        return least + below(most - least + 1);
    }

    /** Quantities are mostly such that a lot gives several parts. */
    private int quantity() {
        return style == 0 ? number(1, 1000000) : number(1, below(3) == 0 ? 60 : 8);
    }

    private int value() {
        return style == 0 ? number(0, 10000000) : number(0, 20000);
    }

    private int anyLot() {
        return number(0, Math.max(0, store.count(2) - 1));
    }

    private int anyExport() {
        return number(0, Math.max(0, store.count(3) - 1));
    }

    private int anyOwner() {
        return number(0, Math.max(0, store.count(1) - 1));
    }

    private void call(String at) {
        int dice = below(100);
        if (dice < 4) {
            Due.is(at + "addOwner", store.addOwner(), model.addOwner());
        } else if (dice < 60) {
            callOnLots(at, dice);
        } else if (dice < 75) {
            callOnSettings(at, dice);
        } else if (dice < 90) {
            callOnText(at, dice);
        } else {
            callOnHistory(at, dice);
        }
    }

    private void callOnLots(String at, int dice) {
        if (dice < 20) {
            int owner = anyOwner();
            int kind = number(0, 5);
            int quantity = style == 0 ? number(1, 1000000) : number(1, 60);
            int value = value();
            int got = store.enter(owner, kind, quantity, value);
            Due.is(at + "enter", got, model.order("enter", owner, kind, quantity, value));
            return;
        }
        int lot = anyLot();
        int quantity = quantity();
        if (dice < 26) {
            Due.is(at + "release", store.release(lot, quantity), model.order("release", lot, quantity));
        } else if (dice < 32) {
            Due.is(at + "sample", store.sample(lot, quantity), model.order("sample", lot, quantity));
        } else if (dice < 38) {
            Due.is(at + "export", store.export(lot, quantity), model.order("export", lot, quantity));
        } else if (dice < 42) {
            int export = anyExport();
            Due.is(at + "prove", store.prove(export), model.order("prove", export));
        } else if (dice < 47) {
            Due.is(at + "destroy", store.destroy(lot, quantity), model.order("destroy", lot, quantity));
        } else if (dice < 52) {
            int owner = anyOwner();
            Due.is(at + "give", store.give(lot, owner), model.order("give", lot, owner));
        } else {
            int days = style == 3 ? number(1, 100) : number(1, 12);
            Due.is(at + "pass", store.pass(days), model.order("days", days));
        }
    }

    private void callOnSettings(String at, int dice) {
        int owner = anyOwner();
        if (dice < 64) {
            int amount = style == 0 ? number(1, 10000000) : number(1, 3000);
            Due.is(at + "deposit", store.deposit(owner, amount), model.deposit(owner, amount));
        } else if (dice < 69) {
            int amount = style == 0 ? number(0, 100000000) : number(0, style == 1 ? 400 : 4000);
            Due.is(at + "setGuarantee", store.setGuarantee(owner, amount), model.setGuarantee(owner, amount));
        } else if (dice < 71) {
            int kind = number(0, 5);
            int rate = number(0, 1000);
            Due.is(at + "setRate", store.setRate(kind, rate), model.setRate(kind, rate));
        } else if (dice < 73) {
            int term = style == 0 ? number(1, 1000) : number(1, 60);
            int proof = style == 0 ? number(1, 200) : number(1, 30);
            Due.is(at + "setTerms", store.setTerms(term, proof), model.setTerms(term, proof));
        } else {
            int cover = number(0, 100);
            int allowance = number(0, 1000);
            int fee = number(0, style == 0 ? 1000 : 20);
            Due.is(at + "setRules", store.setRules(cover, allowance, fee), model.setRules(cover, allowance, fee));
        }
    }

    private String order() {
        StringBuilder order = new StringBuilder();
        int dice = below(8);
        if (dice < 2) {
            order.append("enter ").append(anyOwner()).append(' ').append(number(0, 5)).append(' ');
            order.append(quantity()).append(' ').append(value());
        } else if (dice < 5) {
            order.append(WORDS[below(4)]).append(' ').append(anyLot()).append(' ').append(quantity());
        } else if (dice == 5) {
            order.append("prove ").append(anyExport());
        } else if (dice == 6) {
            order.append("give ").append(anyLot()).append(' ').append(anyOwner());
        } else {
            order.append("days ").append(number(1, 10));
        }
        if (below(30) == 0) {
            int place = below(order.length());
            char sign = SIGNS.charAt(below(SIGNS.length()));
            if (below(2) == 0) {
                order.setCharAt(place, sign);
            } else {
                order.insert(place, sign);
            }
        }
        if (below(40) == 0) {
            order.setLength(below(order.length() + 1));
        }
        return order.toString();
    }

    private void callOnText(String at, int dice) {
        if (dice < 77) {
            char sign = (char) below(65536);
            Due.is(at + "type", store.type(sign), model.type(sign));
            return;
        }
        Due.is(at + "clearText", store.clearText(), model.clearText());
        StringBuilder text = new StringBuilder(order());
        for (int more = below(7); more > 0; more--) {
            text.append(';').append(order());
        }
        if (below(20) == 0) {
            text.append(SIGNS.charAt(below(SIGNS.length())));
        }
        for (int i = 0; i < text.length() && (i < 80 || below(3) == 0); i++) {
            Due.is(at + "type", store.type(text.charAt(i)), model.type(text.charAt(i)));
        }
        for (int i = below(3); i >= 0; i--) {
            Due.is(at + "runOrders of " + text, store.runOrders(), model.runOrders());
        }
    }

    private void callOnHistory(String at, int dice) {
        int slot = number(0, 1);
        if (dice < 96) {
            Due.is(at + "undo", store.undo(), model.undo());
        } else if (dice < 98) {
            Due.is(at + "keep", store.keep(slot), model.keep(slot));
        } else {
            Due.is(at + "restore", store.restore(slot), model.restore(slot));
        }
    }

    private void compareAll(String at) {
        int[] strange = {-1, Integer.MIN_VALUE, Integer.MAX_VALUE};
        for (int what = -1; what <= 13; what++) {
            Due.is(at + "count " + what, store.count(what), model.count(what));
            Due.is(at + "account " + what, store.account(what), model.account(what));
            Due.is(at + "rate " + what, store.rate(what), model.rate(what));
            for (int owner = -1; owner <= 5 && what < 8; owner++) {
                Due.is(at + "owner " + owner + " " + what, store.owner(owner, what), model.owner(owner, what));
            }
            for (int export = -1; export <= store.count(3) && what < 6; export++) {
                int got = store.exported(export, what);
                Due.is(at + "exported " + export + " " + what, got, model.exported(export, what));
            }
        }
        int lot = below(store.count(2) + 1) - (below(20) == 0 ? 1 : 0);
        for (int what = -1; what <= 13; what++) {
            Due.is(at + "lot " + lot + " " + what, store.lot(lot, what), model.lot(lot, what));
        }
        Due.is(at + "documentLength " + lot, store.documentLength(lot), model.documentLength(lot));
        for (int index = -1; index < 23; index++) {
            Due.is(at + "documentAt " + lot + " " + index, store.documentAt(lot, index), model.documentAt(lot, index));
        }
        for (int odd : strange) {
            Due.is(at + "documentAt " + odd, store.documentAt(lot, odd), model.documentAt(lot, odd));
        }
        Due.is(at + "nextDeadline", store.nextDeadline(), model.nextDeadline());
        int days = number(1, 100);
        Due.is(at + "calledIn " + days, store.calledIn(days), model.calledIn(days));
        for (int owner = -1; owner <= store.count(1); owner++) {
            int kind = number(0, 5);
            int got = store.greatestValue(owner, kind);
            Due.is(at + "greatestValue " + owner + " " + kind, got, model.greatestValue(owner, kind));
        }
    }
}
