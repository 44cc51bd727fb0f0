import java.math.BigInteger;
import java.util.ArrayList;
import java.util.LinkedList;
import java.util.List;

/**
 * The document word by word, with the whole Java library and without a thought of speed: days pass
 * one by one, and every sum is made anew. ModelTest compares it with BondedStore.
 */
final class LiteralStore {
    private static final class Owner {
        long cash;
        long guarantee;
        long debt;
        long called;
    }

    private static final class Lot {
        int owner;
        int kind;
        int quantity;
        int value;
        int entered;
        int deadline;
        long due;
        int stored;
        long paid;
        long discharged;
        int samples;
    }

    private static final class Export {
        int lot;
        int units;
        long duty;
        int deadline;
        int state;
    }

    private static final class State {
        int day;
        int term = 100;
        int proof = 30;
        int cover = 20;
        int allowance = 20;
        int fee = 10;
        int seized;
        long fees;
        long deposits;
        int[] rates = {100, 100, 100, 100, 100, 100};
        List<Owner> owners = new ArrayList<>();
        List<Lot> lots = new ArrayList<>();
        List<Export> exports = new ArrayList<>();

        State copy() {
            State s = new State();
            s.day = day;
            s.term = term;
            s.proof = proof;
            s.cover = cover;
            s.allowance = allowance;
            s.fee = fee;
            s.seized = seized;
            s.fees = fees;
            s.deposits = deposits;
            s.rates = rates.clone();
            for (Owner o : owners) {
                Owner c = new Owner();
                c.cash = o.cash;
                c.guarantee = o.guarantee;
                c.debt = o.debt;
                c.called = o.called;
                s.owners.add(c);
            }
            for (Lot l : lots) {
                Lot c = new Lot();
                c.owner = l.owner;
                c.kind = l.kind;
                c.quantity = l.quantity;
                c.value = l.value;
                c.entered = l.entered;
                c.deadline = l.deadline;
                c.due = l.due;
                c.stored = l.stored;
                c.paid = l.paid;
                c.discharged = l.discharged;
                c.samples = l.samples;
                s.lots.add(c);
            }
            for (Export e : exports) {
                Export c = new Export();
                c.lot = e.lot;
                c.units = e.units;
                c.duty = e.duty;
                c.deadline = e.deadline;
                c.state = e.state;
                s.exports.add(c);
            }
            return s;
        }
    }

    private State s = new State();
    private final LinkedList<State> history = new LinkedList<>();
    private final State[] slots = new State[2];
    private String text = "";
    private int reason;

    private static long quotient(long a, long b, long divisor) {
        BigInteger product = BigInteger.valueOf(a).multiply(BigInteger.valueOf(b));
        return product.divide(BigInteger.valueOf(divisor)).longValueExact();
    }

    private boolean hasOwner(int owner) {
        return owner >= 0 && owner < s.owners.size();
    }

    private boolean hasLot(int lot) {
        return lot >= 0 && lot < s.lots.size();
    }

    private static boolean in(int number, int least, int most) {
        return least <= number && number <= most;
    }

    private long refused(int why) {
        reason = why;
        return Due.REFUSED;
    }

    private long act(State before, long answer) {
        if (answer >= 0) {
            history.addLast(before);
            if (history.size() > 6) {
                history.removeFirst();
            }
        }
        return answer;
    }

    /** The duty of q units of which x units of the lot were taken before. */
    private static long duty(Lot l, int x, int q) {
        return quotient(l.due, x + q, l.quantity) - quotient(l.due, x, l.quantity);
    }

    private static int taken(Lot l) {
        return l.quantity - l.stored;
    }

    private long suspended(int lot) {
        Lot l = s.lots.get(lot);
        long sum = duty(l, taken(l), l.stored);
        for (Export e : s.exports) {
            if (e.lot == lot && e.state == 0) {
                sum += e.duty;
            }
        }
        return sum;
    }

    private long use(int owner) {
        long use = 0;
        for (int i = 0; i < s.lots.size(); i++) {
            if (s.lots.get(i).owner == owner) {
                use += suspended(i);
            }
        }
        return use;
    }

    private boolean covered(long use, long guarantee) {
        return quotient(use, s.cover, 100) <= guarantee;
    }

    long addOwner() {
        if (s.owners.size() == 5) {
            return Due.FULL;
        }
        State before = s.copy();
        s.owners.add(new Owner());
        return act(before, s.owners.size() - 1);
    }

    long deposit(int owner, int amount) {
        if (!hasOwner(owner)) {
            return Due.UNKNOWN;
        }
        if (!in(amount, 1, 10000000)) {
            return Due.BAD_VALUE;
        }
        State before = s.copy();
        Owner o = s.owners.get(owner);
        long rest = amount;
        if (rest >= o.debt) {
            rest -= o.debt;
            o.debt = 0;
        } else {
            o.debt -= rest;
            rest = 0;
        }
        o.cash += rest;
        s.deposits += amount;
        return act(before, o.debt);
    }

    long setGuarantee(int owner, int amount) {
        if (!hasOwner(owner)) {
            return Due.UNKNOWN;
        }
        if (!in(amount, 0, 100000000)) {
            return Due.BAD_VALUE;
        }
        if (!covered(use(owner), amount)) {
            return refused(2);
        }
        State before = s.copy();
        long previous = s.owners.get(owner).guarantee;
        s.owners.get(owner).guarantee = amount;
        return act(before, previous);
    }

    long setRate(int kind, int rate) {
        if (!in(kind, 0, 5)) {
            return Due.UNKNOWN;
        }
        if (!in(rate, 0, 1000)) {
            return Due.BAD_VALUE;
        }
        State before = s.copy();
        long previous = s.rates[kind];
        s.rates[kind] = rate;
        return act(before, previous);
    }

    long setTerms(int term, int proof) {
        if (!in(term, 1, 1000) || !in(proof, 1, 200)) {
            return Due.BAD_VALUE;
        }
        State before = s.copy();
        s.term = term;
        s.proof = proof;
        return act(before, before.term);
    }

    long setRules(int cover, int allowance, int fee) {
        if (!in(cover, 0, 100) || !in(allowance, 0, 1000) || !in(fee, 0, 1000)) {
            return Due.BAD_VALUE;
        }
        State before = s.copy();
        s.cover = cover;
        s.allowance = allowance;
        s.fee = fee;
        return act(before, before.cover);
    }

    /** The acts that orders can be, by their words; the numbers stand in the order of the document. */
    private long carryOut(String word, int... n) {
        switch (word) {
            case "enter": return doEnter(n[0], n[1], n[2], n[3]);
            case "prove": return doProve(n[0]);
            case "give": return doGive(n[0], n[1]);
            case "days": return doDays(n[0]);
            default: return doTake(word, n[0], n[1]);
        }
    }

    long order(String word, int... n) {
        State before = s.copy();
        return act(before, carryOut(word, n));
    }

    private long doEnter(int owner, int kind, int quantity, int value) {
        if (!hasOwner(owner) || !in(kind, 0, 5)) {
            return Due.UNKNOWN;
        }
        if (!in(quantity, 1, 1000000) || !in(value, 0, 10000000)) {
            return Due.BAD_VALUE;
        }
        if (s.owners.get(owner).debt > 0) {
            return refused(1);
        }
        if (s.lots.size() == 30) {
            return refused(5);
        }
        Lot l = new Lot();
        l.owner = owner;
        l.kind = kind;
        l.quantity = quantity;
        l.value = value;
        l.entered = s.day;
        l.deadline = s.day + s.term;
        l.due = quotient(value, s.rates[kind], 1000);
        l.stored = quantity;
        if (!covered(use(owner) + l.due, s.owners.get(owner).guarantee)) {
            return refused(2);
        }
        s.lots.add(l);
        return s.lots.size() - 1;
    }

    private long doTake(String word, int lot, int quantity) {
        if (!hasLot(lot)) {
            return Due.UNKNOWN;
        }
        if (!in(quantity, 1, 1000000)) {
            return Due.BAD_VALUE;
        }
        Lot l = s.lots.get(lot);
        Owner o = s.owners.get(l.owner);
        if (quantity > l.stored) {
            return refused(4);
        }
        long duty = duty(l, taken(l), quantity);
        if (word.equals("release")) {
            if (o.cash < duty) {
                return refused(3);
            }
            o.cash -= duty;
            l.paid += duty;
            l.stored -= quantity;
            return duty;
        }
        if (word.equals("destroy")) {
            long cost = (long) quantity * s.fee;
            if (o.cash < cost) {
                return refused(3);
            }
            o.cash -= cost;
            s.fees += cost;
            l.discharged += duty;
            l.stored -= quantity;
            return duty;
        }
        if (word.equals("export")) {
            if (s.exports.size() == 30) {
                return refused(5);
            }
            Export e = new Export();
            e.lot = lot;
            e.units = quantity;
            e.duty = duty;
            e.deadline = s.day + s.proof;
            s.exports.add(e);
            l.stored -= quantity;
            return s.exports.size() - 1;
        }
        int free = 0;
        while (free < quantity && l.samples + free + 1 <= quotient(l.quantity, s.allowance, 1000)) {
            free++;
        }
        long freeDuty = duty(l, taken(l), free);
        long paidDuty = duty(l, taken(l) + free, quantity - free);
        if (o.cash < paidDuty) {
            return refused(3);
        }
        o.cash -= paidDuty;
        l.discharged += freeDuty;
        l.paid += paidDuty;
        l.samples += quantity;
        l.stored -= quantity;
        return paidDuty;
    }

    private long doProve(int export) {
        if (export < 0 || export >= s.exports.size()) {
            return Due.UNKNOWN;
        }
        Export e = s.exports.get(export);
        if (e.state != 0) {
            return refused(6);
        }
        e.state = 1;
        s.lots.get(e.lot).discharged += e.duty;
        return e.duty;
    }

    private long doGive(int lot, int owner) {
        if (!hasLot(lot) || !hasOwner(owner)) {
            return Due.UNKNOWN;
        }
        Lot l = s.lots.get(lot);
        if (l.owner == owner) {
            return Due.BAD_VALUE;
        }
        if (s.owners.get(owner).debt > 0) {
            return refused(1);
        }
        int previous = l.owner;
        l.owner = owner;
        if (!covered(use(owner), s.owners.get(owner).guarantee)) {
            l.owner = previous;
            return refused(2);
        }
        return previous;
    }

    private long doDays(int days) {
        if (!in(days, 1, 100)) {
            return Due.BAD_VALUE;
        }
        long called = 0;
        for (int i = 0; i < days; i++) {
            s.day++;
            for (Export e : s.exports) {
                if (e.state == 0 && e.deadline < s.day) {
                    e.state = 2;
                    called += call(s.lots.get(e.lot), e.duty);
                }
            }
            for (Lot l : s.lots) {
                if (l.stored > 0 && l.deadline < s.day) {
                    long duty = duty(l, taken(l), l.stored);
                    l.stored = 0;
                    s.seized++;
                    called += call(l, duty);
                }
            }
        }
        return called;
    }

    private long call(Lot l, long duty) {
        Owner o = s.owners.get(l.owner);
        long left = duty;
        if (o.guarantee >= left) {
            o.guarantee -= left;
        } else {
            left -= o.guarantee;
            o.guarantee = 0;
            o.debt += left;
        }
        o.called += duty;
        l.paid += duty;
        return duty;
    }

    long type(char character) {
        if (text.length() == 80) {
            return Due.FULL;
        }
        text += character;
        return text.length();
    }

    long clearText() {
        int length = text.length();
        text = "";
        return length;
    }

    /** The pieces between blanks and semicolons, with what stands behind each, tell the fault. */
    long runOrders() {
        List<String> words = new ArrayList<>();
        List<int[]> numbers = new ArrayList<>();
        int at = 0;
        boolean more = true;
        while (more) {
            String word = text.substring(at).split("[ ;]", -1)[0];
            String pattern = pattern(word);
            if (pattern == null) {
                return -100 - at;
            }
            at += word.length();
            int[] row = new int[pattern.length()];
            for (int i = 0; i < row.length; i++) {
                if (at == text.length() || text.charAt(at) == ';') {
                    return -100 - at;
                }
                at++;
                String number = text.substring(at).split("[ ;]", -1)[0];
                if (!number.matches("[0-9]{1,8}")) {
                    return -100 - at;
                }
                row[i] = Integer.parseInt(number);
                if (!allowed(pattern.charAt(i), row[i])) {
                    return -100 - at;
                }
                at += number.length();
            }
            words.add(word);
            numbers.add(row);
            if (at < text.length() && text.charAt(at) == ' ') {
                return -100 - at;
            }
            more = at < text.length();
            at++;
        }
        State before = s.copy();
        int done = 0;
        while (done < words.size() && carryOut(words.get(done), numbers.get(done)) >= 0) {
            done++;
        }
        return act(before, done);
    }

    private static String pattern(String word) {
        switch (word) {
            case "enter": return "OKQV";
            case "release": return "LQ";
            case "sample": return "LQ";
            case "export": return "LQ";
            case "prove": return "E";
            case "destroy": return "LQ";
            case "give": return "LO";
            case "days": return "N";
            default: return null;
        }
    }

    private static boolean allowed(char place, int number) {
        switch (place) {
            case 'O': return in(number, 0, 4);
            case 'K': return in(number, 0, 5);
            case 'L': return in(number, 0, 29);
            case 'E': return in(number, 0, 29);
            case 'Q': return in(number, 1, 1000000);
            case 'V': return in(number, 0, 10000000);
            default: return in(number, 1, 100);
        }
    }

    long undo() {
        if (history.isEmpty()) {
            return Due.NONE;
        }
        s = history.removeLast();
        return history.size();
    }

    long keep(int slot) {
        if (!in(slot, 0, 1)) {
            return Due.UNKNOWN;
        }
        slots[slot] = s.copy();
        return s.lots.size();
    }

    long restore(int slot) {
        if (!in(slot, 0, 1)) {
            return Due.UNKNOWN;
        }
        if (slots[slot] == null) {
            return Due.NONE;
        }
        State before = s;
        s = slots[slot].copy();
        return act(before, s.lots.size());
    }

    long owner(int owner, int what) {
        if (!hasOwner(owner)) {
            return Due.UNKNOWN;
        }
        Owner o = s.owners.get(owner);
        long stored = s.lots.stream().filter(l -> l.owner == owner && l.stored > 0).count();
        long use = use(owner);
        long[] all = {o.cash, o.guarantee, o.debt, use, covered(use, o.guarantee) ? 1 : 0, stored, o.called};
        return in(what, 0, all.length - 1) ? all[what] : Due.BAD_VALUE;
    }

    private int waitingUnits(int lot) {
        return s.exports.stream().filter(e -> e.lot == lot && e.state == 0).mapToInt(e -> e.units).sum();
    }

    long lot(int lot, int what) {
        if (!hasLot(lot)) {
            return Due.UNKNOWN;
        }
        Lot l = s.lots.get(lot);
        long[] all = {l.owner, l.kind, l.quantity, l.value, l.entered, l.deadline, l.due, l.stored, suspended(lot),
            l.paid, l.discharged, l.samples, waitingUnits(lot)};
        return in(what, 0, all.length - 1) ? all[what] : Due.BAD_VALUE;
    }

    long exported(int export, int what) {
        if (export < 0 || export >= s.exports.size()) {
            return Due.UNKNOWN;
        }
        Export e = s.exports.get(export);
        long[] all = {e.lot, e.units, e.duty, e.deadline, e.state};
        return in(what, 0, all.length - 1) ? all[what] : Due.BAD_VALUE;
    }

    private String document(int lot) {
        Lot l = s.lots.get(lot);
        boolean warned = l.stored > 0 && l.deadline - s.day <= 7;
        for (Export e : s.exports) {
            warned |= e.lot == lot && e.state == 0 && e.deadline - s.day <= 7;
        }
        return "L" + lot + "/" + l.owner + ":" + l.stored + "+" + waitingUnits(lot) + (warned ? "!" : "");
    }

    long documentLength(int lot) {
        return hasLot(lot) ? document(lot).length() : Due.UNKNOWN;
    }

    long documentAt(int lot, int index) {
        if (!hasLot(lot)) {
            return Due.UNKNOWN;
        }
        if (index < 0) {
            return Due.BAD_VALUE;
        }
        return index >= document(lot).length() ? Due.NONE : document(lot).charAt(index);
    }

    long nextDeadline() {
        for (int day = s.day; day <= s.day + 1000; day++) {
            for (int i = 0; i < s.lots.size(); i++) {
                if (s.lots.get(i).stored > 0 && s.lots.get(i).deadline == day) {
                    return i;
                }
            }
            for (int i = 0; i < s.exports.size(); i++) {
                if (s.exports.get(i).state == 0 && s.exports.get(i).deadline == day) {
                    return 100 + i;
                }
            }
        }
        return Due.NONE;
    }

    long calledIn(int days) {
        State kept = s;
        s = s.copy();
        long called = doDays(days);
        s = kept;
        return called;
    }

    /** The greatest use that is covered is found by a quotient, and from it the greatest value. */
    long greatestValue(int owner, int kind) {
        if (!hasOwner(owner) || !in(kind, 0, 5)) {
            return Due.UNKNOWN;
        }
        long guarantee = s.owners.get(owner).guarantee;
        if (!covered(use(owner), guarantee)) {
            return Due.NONE;
        }
        if (s.cover == 0 || s.rates[kind] == 0) {
            return 10000000;
        }
        long most = ((guarantee + 1) * 100 - 1) / s.cover - use(owner);
        return Math.min(10000000, ((most + 1) * 1000 - 1) / s.rates[kind]);
    }

    long account(int account) {
        long[] all = new long[7];
        for (int i = 0; i < s.lots.size(); i++) {
            all[0] += s.lots.get(i).due;
            all[1] += suspended(i);
            all[2] += s.lots.get(i).paid;
            all[3] += s.lots.get(i).discharged;
        }
        for (Owner o : s.owners) {
            all[4] += o.called;
        }
        all[5] = s.fees;
        all[6] = s.deposits;
        return in(account, 0, 6) ? all[account] : Due.BAD_VALUE;
    }

    long count(int what) {
        int waiting = (int) s.exports.stream().filter(e -> e.state == 0).count();
        int[] all = {s.day, s.owners.size(), s.lots.size(), s.exports.size(), waiting, s.seized, s.term, s.proof,
            s.cover, s.allowance, s.fee, reason, history.size()};
        return in(what, 0, all.length - 1) ? all[what] : Due.BAD_VALUE;
    }

    long rate(int kind) {
        return in(kind, 0, 5) ? s.rates[kind] : Due.UNKNOWN;
    }
}
