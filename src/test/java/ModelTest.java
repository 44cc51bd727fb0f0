import java.util.function.LongSupplier;

/**
 * All promises together: runs of 512 calls by a fixed row of numbers, acts and questions mixed, each
 * answer compared with that of LiteralStore.
 */
public final class ModelTest {
    private static final int RUNS = 2500;
    /** What an object answers to later calls is free. */
    private static final int CALLS = 512;
    private static final int[] EXTREMES = {-1, 0, Integer.MIN_VALUE, Integer.MAX_VALUE, 1000001, 10000001, 100000001};
    private static final String[] WORDS = {"release", "sample", "export", "destroy"};
    private static final String SIGNS = "0159 ;;  enterdays-x";

    private final BondedStore store = new BondedStore();
    private final LiteralStore model = new LiteralStore();
    private final int run;
    private final int style;
    private long seed;
    private int calls;

    private ModelTest(int run) {
        this.run = run;
        style = run % 4;
        seed = 7919L * run + 1;
    }

    public static void main(String[] args) {
        for (int run = 0; run < RUNS; run++) {
            ModelTest test = new ModelTest(run);
            while (test.calls < CALLS) {
                test.call();
            }
        }
        Due.end();
    }

    private void same(String call, Call got, LongSupplier want) {
        if (calls < CALLS) {
            calls++;
            long answer = got.on(store);
            long due = want.getAsLong();
            Due.is(answer == due ? call : "run " + run + ", call " + calls + ", " + call, answer, due);
        }
    }

    private int below(int bound) {
        seed = seed * 6364136223846793005L + 1442695040888963407L;
        return (int) ((seed >>> 33) % bound);
    }

    private int number(int least, int most) {
        int dice = below(40);
        if (dice == 0) {
            return EXTREMES[below(EXTREMES.length)];
        }
        if (dice == 1) {
            return below(2) == 0 ? least - 1 : most + 1;
        }
        if (dice < 5) {
            return below(2) == 0 ? least : most;
        }
        return least + below(most - least + 1);
    }

    /** Quantities are mostly such that a lot gives several parts. */
    private int quantity() {
        return style == 0 ? number(1, 1000000) : number(1, below(3) == 0 ? 60 : 8);
    }

    private int value() {
        return style == 0 ? number(0, 10000000) : number(0, 20000);
    }

    private int anyOwner() {
        return number(0, Math.max(0, (int) model.count(1) - 1));
    }

    private int anyLot() {
        return number(0, Math.max(0, (int) model.count(2) - 1));
    }

    private int anyExport() {
        return number(0, Math.max(0, (int) model.count(3) - 1));
    }

    private void call() {
        int dice = below(150);
        if (dice < 4) {
            same("addOwner", s -> s.addOwner(), () -> model.addOwner());
        } else if (dice < 60) {
            callOnLots(dice);
        } else if (dice < 75) {
            callOnSettings(dice);
        } else if (dice < 78) {
            callOnText();
        } else if (dice < 88) {
            callOnHistory(dice);
        } else if (dice < 100) {
            askAboutLot();
        } else if (dice < 115) {
            askOfNumbers();
        } else {
            ask(dice);
        }
    }

    private void callOnLots(int dice) {
        if (dice < 20) {
            int owner = anyOwner();
            int kind = number(0, 5);
            int quantity = style == 0 ? number(1, 1000000) : number(1, 60);
            int value = value();
            same("enter", s -> s.enter(owner, kind, quantity, value),
                    () -> model.order("enter", owner, kind, quantity, value));
            return;
        }
        int lot = anyLot();
        int quantity = quantity();
        if (dice < 26) {
            same("release", s -> s.release(lot, quantity), () -> model.order("release", lot, quantity));
        } else if (dice < 32) {
            same("sample", s -> s.sample(lot, quantity), () -> model.order("sample", lot, quantity));
        } else if (dice < 38) {
            same("export", s -> s.export(lot, quantity), () -> model.order("export", lot, quantity));
        } else if (dice < 42) {
            int export = anyExport();
            same("prove", s -> s.prove(export), () -> model.order("prove", export));
        } else if (dice < 47) {
            same("destroy", s -> s.destroy(lot, quantity), () -> model.order("destroy", lot, quantity));
        } else if (dice < 52) {
            int owner = anyOwner();
            same("give", s -> s.give(lot, owner), () -> model.order("give", lot, owner));
        } else {
            int days = style == 3 ? number(1, 100) : number(1, 12);
            same("pass", s -> s.pass(days), () -> model.order("days", days));
        }
    }

    private void callOnSettings(int dice) {
        int owner = anyOwner();
        if (dice < 64) {
            int amount = style == 0 ? number(1, 10000000) : number(1, 3000);
            same("deposit", s -> s.deposit(owner, amount), () -> model.deposit(owner, amount));
        } else if (dice < 69) {
            int amount = style == 0 ? number(0, 100000000) : number(0, style == 1 ? 400 : 4000);
            same("setGuarantee", s -> s.setGuarantee(owner, amount), () -> model.setGuarantee(owner, amount));
        } else if (dice < 71) {
            int kind = number(0, 5);
            int rate = number(0, 1000);
            same("setRate", s -> s.setRate(kind, rate), () -> model.setRate(kind, rate));
        } else if (dice < 73) {
            int term = style == 0 ? number(1, 1000) : number(1, 60);
            int proof = style == 0 ? number(1, 200) : number(1, 30);
            same("setTerms", s -> s.setTerms(term, proof), () -> model.setTerms(term, proof));
        } else {
            int cover = number(0, 100);
            int allowance = number(0, 1000);
            int fee = number(0, style == 0 ? 1000 : 20);
            same("setRules", s -> s.setRules(cover, allowance, fee), () -> model.setRules(cover, allowance, fee));
        }
    }

    private String order() {
        StringBuilder order = new StringBuilder();
        int dice = below(8);
        if (dice < 2) {
            order.append("enter ").append(anyOwner()).append(' ').append(number(0, 5)).append(' ');
            order.append(quantity()).append(' ').append(value());
        } else if (dice < 5) {
            order.append(WORDS[below(4)]).append(' ').append(anyLot()).append(' ').append(quantity());
        } else if (dice == 5) {
            order.append("prove ").append(anyExport());
        } else if (dice == 6) {
            order.append("give ").append(anyLot()).append(' ').append(anyOwner());
        } else {
            order.append("days ").append(number(1, 10));
        }
        if (below(30) == 0) {
            int place = below(order.length());
            char sign = SIGNS.charAt(below(SIGNS.length()));
            if (below(2) == 0) {
                order.setCharAt(place, sign);
            } else {
                order.insert(place, sign);
            }
        }
        if (below(40) == 0) {
            order.setLength(below(order.length() + 1));
        }
        return order.toString();
    }

    private void type(char sign) {
        same("type", s -> s.type(sign), () -> model.type(sign));
    }

    private void callOnText() {
        if (below(5) == 0) {
            type((char) below(65536));
            return;
        }
        same("clearText", s -> s.clearText(), () -> model.clearText());
        StringBuilder text = new StringBuilder(order());
        for (int more = below(7); more > 0; more--) {
            text.append(';').append(order());
        }
        if (below(20) == 0) {
            text.append(SIGNS.charAt(below(SIGNS.length())));
        }
        for (int i = 0; i < text.length() && (i < 80 || below(3) == 0); i++) {
            type(text.charAt(i));
        }
        for (int i = below(3); i >= 0; i--) {
            same("runOrders of " + text, s -> s.runOrders(), () -> model.runOrders());
        }
    }

    private void callOnHistory(int dice) {
        int slot = number(0, 1);
        if (dice < 84) {
            same("undo", s -> s.undo(), () -> model.undo());
        } else if (dice < 86) {
            same("keep", s -> s.keep(slot), () -> model.keep(slot));
        } else {
            same("restore", s -> s.restore(slot), () -> model.restore(slot));
        }
    }

    private void askAboutLot() {
        int lot = anyLot();
        int what = number(0, 12);
        int index = number(0, 14);
        int dice = below(4);
        if (dice == 0) {
            same("documentLength", s -> s.documentLength(lot), () -> model.documentLength(lot));
        } else if (dice == 1) {
            same("documentAt", s -> s.documentAt(lot, index), () -> model.documentAt(lot, index));
        } else {
            same("lot " + what, s -> s.lot(lot, what), () -> model.lot(lot, what));
        }
    }

    private void askOfNumbers() {
        int number = number(0, 12);
        int dice = below(3);
        if (dice == 0) {
            same("count " + number, s -> s.count(number), () -> model.count(number));
        } else if (dice == 1) {
            same("account " + number / 2, s -> s.account(number / 2), () -> model.account(number / 2));
        } else {
            same("rate " + number / 2, s -> s.rate(number / 2), () -> model.rate(number / 2));
        }
    }

    private void ask(int dice) {
        int owner = anyOwner();
        if (dice < 125) {
            int what = number(0, 6);
            same("owner " + what, s -> s.owner(owner, what), () -> model.owner(owner, what));
        } else if (dice < 135) {
            int export = anyExport();
            int what = number(0, 4);
            same("exported " + what, s -> s.exported(export, what), () -> model.exported(export, what));
        } else if (dice < 138) {
            same("nextDeadline", s -> s.nextDeadline(), () -> model.nextDeadline());
        } else if (dice < 144) {
            int days = number(1, 100);
            same("calledIn", s -> s.calledIn(days), () -> model.calledIn(days));
        } else {
            int kind = number(0, 5);
            same("greatestValue", s -> s.greatestValue(owner, kind), () -> model.greatestValue(owner, kind));
        }
    }
}
