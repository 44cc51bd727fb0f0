/**
 * A bonded store of customs. ../shared/DOC.md tells what each call has to do; the public methods
 * here only look at arguments, keep the history and answer, and the classes inside hold the rows.
 */
public final class BondedStore {
    public static final int UNKNOWN = -100000001;
    public static final int BAD_VALUE = -100000002;
    public static final int REFUSED = -100000003;
    public static final int FULL = -100000004;
    public static final int NONE = -100000005;

    private static final int OWNERS = 5;
    private static final int KINDS = 6;
    private static final int LOTS = 30;
    private static final int EXPORTS = 30;
    private static final int SLOTS = 2;

    private static final int MOST_UNITS = 1000000;
    private static final int MOST_VALUE = 10000000;
    private static final int MOST_DEPOSIT = 10000000;
    private static final int MOST_GUARANTEE = 100000000;
    private static final int MOST_TERM = 1000;
    private static final int MOST_PROOF = 200;
    private static final int MOST_DAYS = 100;
    private static final int PER_CENT = 100;
    private static final int PER_MILLE = 1000;
    private static final int MOST_FEE = 1000;
    private static final int WARNED_DAYS = 7;

    private static final int OWES = 1;
    private static final int NOT_COVERED = 2;
    private static final int TOO_LITTLE_CASH = 3;
    private static final int TOO_FEW_UNITS = 4;
    private static final int ALL_NUMBERS_USED = 5;
    private static final int NOT_WAITING = 6;

    private static final int EXPORT_OFFSET = 100;
    private static final int FAULT_OFFSET = -100;

    private final State now;
    private final History history;
    private final State[] slots;
    private final boolean[] filled;
    private final Orders orders;
    private final StringBuilder document;
    private int reason;

    public BondedStore() {
        now = new State();
        history = new History();
        slots = new State[SLOTS];
        for (int i = 0; i < SLOTS; i++) {
            slots[i] = new State();
        }
        filled = new boolean[SLOTS];
        orders = new Orders();
        document = new StringBuilder();
        reason = 0;
    }

    // ---- owners and settings

    public int addOwner() {
        if (now.ownerCount >= OWNERS) {
            return FULL;
        }
        history.prepare(now);
        int number = now.ownerCount;
        now.ownerCount = number + 1;
        return finishAct(number);
    }

    public int deposit(int owner, int amount) {
        Owner payer = now.findOwner(owner);
        if (payer == null) {
            return UNKNOWN;
        }
        if (outside(amount, 1, MOST_DEPOSIT)) {
            return BAD_VALUE;
        }
        history.prepare(now);
        payer.payIn(amount);
        now.deposits += amount;
        return finishAct(payer.debt);
    }

    public int setGuarantee(int owner, int amount) {
        Owner guarantor = now.findOwner(owner);
        if (guarantor == null) {
            return UNKNOWN;
        }
        if (outside(amount, 0, MOST_GUARANTEE)) {
            return BAD_VALUE;
        }
        if (!now.settings.covers(amount, now.useOf(owner))) {
            return refuse(NOT_COVERED);
        }
        history.prepare(now);
        int previous = guarantor.guarantee;
        guarantor.guarantee = amount;
        return finishAct(previous);
    }

    public int setRate(int kind, int rate) {
        if (outside(kind, 0, KINDS - 1)) {
            return UNKNOWN;
        }
        if (outside(rate, 0, PER_MILLE)) {
            return BAD_VALUE;
        }
        history.prepare(now);
        int previous = now.settings.rates[kind];
        now.settings.rates[kind] = rate;
        return finishAct(previous);
    }

    public int setTerms(int term, int proof) {
        if (outside(term, 1, MOST_TERM) || outside(proof, 1, MOST_PROOF)) {
            return BAD_VALUE;
        }
        history.prepare(now);
        int previous = now.settings.term;
        now.settings.term = term;
        now.settings.proof = proof;
        return finishAct(previous);
    }

    public int setRules(int cover, int allowance, int fee) {
        if (outside(cover, 0, PER_CENT) || outside(allowance, 0, PER_MILLE) || outside(fee, 0, MOST_FEE)) {
            return BAD_VALUE;
        }
        history.prepare(now);
        int previous = now.settings.cover;
        now.settings.cover = cover;
        now.settings.allowance = allowance;
        now.settings.fee = fee;
        return finishAct(previous);
    }

    // ---- lots

    public int enter(int owner, int kind, int quantity, int value) {
        history.prepare(now);
        return finishAct(enterLot(owner, kind, quantity, value));
    }

    public int release(int lot, int quantity) {
        history.prepare(now);
        return finishAct(releaseUnits(lot, quantity));
    }

    public int sample(int lot, int quantity) {
        history.prepare(now);
        return finishAct(sampleUnits(lot, quantity));
    }

    public int export(int lot, int quantity) {
        history.prepare(now);
        return finishAct(exportUnits(lot, quantity));
    }

    public int prove(int export) {
        history.prepare(now);
        return finishAct(proveExport(export));
    }

    public int destroy(int lot, int quantity) {
        history.prepare(now);
        return finishAct(destroyUnits(lot, quantity));
    }

    public int give(int lot, int owner) {
        history.prepare(now);
        return finishAct(giveLot(lot, owner));
    }

    public int pass(int days) {
        history.prepare(now);
        return finishAct(passDays(days));
    }

    // ---- orders

    public int type(char character) {
        return orders.append(character) ? orders.length : FULL;
    }

    public int clearText() {
        int previous = orders.length;
        orders.length = 0;
        return previous;
    }

    public int runOrders() {
        int fault = orders.findFault();
        if (fault != Orders.NO_FAULT) {
            return FAULT_OFFSET - fault;
        }
        history.prepare(now);
        return finishAct(carryOutOrders());
    }

    // ---- history

    public int undo() {
        return history.takeBack(now) ? history.size : NONE;
    }

    public int keep(int slot) {
        if (outside(slot, 0, SLOTS - 1)) {
            return UNKNOWN;
        }
        slots[slot].copyFrom(now);
        filled[slot] = true;
        return now.lotCount;
    }

    public int restore(int slot) {
        if (outside(slot, 0, SLOTS - 1)) {
            return UNKNOWN;
        }
        if (!filled[slot]) {
            return NONE;
        }
        history.prepare(now);
        now.copyFrom(slots[slot]);
        return finishAct(now.lotCount);
    }

    // ---- what there is

    public long owner(int owner, int what) {
        Owner asked = now.findOwner(owner);
        if (asked == null) {
            return UNKNOWN;
        }
        switch (what) {
            case 0: return asked.cash;
            case 1: return asked.guarantee;
            case 2: return asked.debt;
            case 3: return now.useOf(owner);
            case 4: return now.settings.covers(asked.guarantee, now.useOf(owner)) ? 1 : 0;
            case 5: return now.storedLotsOf(owner);
            case 6: return asked.called;
            default: return BAD_VALUE;
        }
    }

    public int lot(int lot, int what) {
        Lot asked = now.findLot(lot);
        if (asked == null) {
            return UNKNOWN;
        }
        switch (what) {
            case 0: return asked.owner;
            case 1: return asked.kind;
            case 2: return asked.quantity;
            case 3: return asked.value;
            case 4: return asked.entered;
            case 5: return asked.deadline;
            case 6: return asked.due;
            case 7: return asked.stored;
            case 8: return asked.suspended();
            case 9: return asked.paid;
            case 10: return asked.discharged;
            case 11: return asked.sampled;
            case 12: return now.waitingUnitsOf(lot);
            default: return BAD_VALUE;
        }
    }

    public int exported(int export, int what) {
        Export asked = now.findExport(export);
        if (asked == null) {
            return UNKNOWN;
        }
        switch (what) {
            case 0: return asked.lot;
            case 1: return asked.units;
            case 2: return asked.duty;
            case 3: return asked.deadline;
            case 4: return asked.state;
            default: return BAD_VALUE;
        }
    }

    public int documentLength(int lot) {
        Lot asked = now.findLot(lot);
        if (asked == null) {
            return UNKNOWN;
        }
        writeDocument(lot, asked);
        return document.length();
    }

    public int documentAt(int lot, int index) {
        Lot asked = now.findLot(lot);
        if (asked == null) {
            return UNKNOWN;
        }
        if (index < 0) {
            return BAD_VALUE;
        }
        writeDocument(lot, asked);
        return index < document.length() ? document.charAt(index) : NONE;
    }

    public int nextDeadline() {
        int found = NONE;
        // Beyond every deadline there can be; only what ends earlier than what was found replaces it.
        int limit = now.day + MOST_TERM + 1;
        for (int i = 0; i < now.lotCount; i++) {
            if (now.lots[i].endsBefore(limit)) {
                limit = now.lots[i].deadline;
                found = i;
            }
        }
        for (int i = 0; i < now.exportCount; i++) {
            if (now.exports[i].endsBefore(limit)) {
                limit = now.exports[i].deadline;
                found = EXPORT_OFFSET + i;
            }
        }
        return found;
    }

    public int calledIn(int days) {
        if (outside(days, 1, MOST_DAYS)) {
            return BAD_VALUE;
        }
        return now.dutyEndingBefore(now.day + days);
    }

    public int greatestValue(int owner, int kind) {
        Owner entering = now.findOwner(owner);
        if (entering == null || outside(kind, 0, KINDS - 1)) {
            return UNKNOWN;
        }
        int use = now.useOf(owner);
        if (!now.settings.covers(entering.guarantee, use)) {
            return NONE;
        }
        // A greater value never has a lesser duty, so halving steps find the last covered one; the
        // first step is the greatest power of two that is a value.
        int greatest = 0;
        for (int step = 1 << 23; step > 0; step >>= 1) {
            int tried = greatest + step;
            if (tried <= MOST_VALUE
                    && now.settings.covers(entering.guarantee, use + now.settings.dutyOf(kind, tried))) {
                greatest = tried;
            }
        }
        return greatest;
    }

    public long account(int account) {
        switch (account) {
            case 0: return now.sumOfLots(Lot.DUE);
            case 1: return now.sumOfLots(Lot.SUSPENDED);
            case 2: return now.sumOfLots(Lot.PAID);
            case 3: return now.sumOfLots(Lot.DISCHARGED);
            case 4: return now.calledOfAll();
            case 5: return now.fees;
            case 6: return now.deposits;
            default: return BAD_VALUE;
        }
    }

    public int count(int what) {
        switch (what) {
            case 0: return now.day;
            case 1: return now.ownerCount;
            case 2: return now.lotCount;
            case 3: return now.exportCount;
            case 4: return now.waitingExports();
            case 5: return now.seizedLots;
            case 6: return now.settings.term;
            case 7: return now.settings.proof;
            case 8: return now.settings.cover;
            case 9: return now.settings.allowance;
            case 10: return now.settings.fee;
            case 11: return reason;
            case 12: return history.size;
            default: return BAD_VALUE;
        }
    }

    public int rate(int kind) {
        if (outside(kind, 0, KINDS - 1)) {
            return UNKNOWN;
        }
        return now.settings.rates[kind];
    }

    // ---- the acts without their history, as the orders need them too

    private int enterLot(int ownerNumber, int kind, int quantity, int value) {
        Owner owner = now.findOwner(ownerNumber);
        if (owner == null || outside(kind, 0, KINDS - 1)) {
            return UNKNOWN;
        }
        if (outside(quantity, 1, MOST_UNITS) || outside(value, 0, MOST_VALUE)) {
            return BAD_VALUE;
        }
        if (owner.debt > 0) {
            return refuse(OWES);
        }
        int number = now.lotCount;
        if (number >= LOTS) {
            return refuse(ALL_NUMBERS_USED);
        }
        int due = now.settings.dutyOf(kind, value);
        if (!now.settings.covers(owner.guarantee, now.useOf(ownerNumber) + due)) {
            return refuse(NOT_COVERED);
        }
        Lot lot = now.lots[number];
        lot.owner = ownerNumber;
        lot.kind = kind;
        lot.quantity = quantity;
        lot.value = value;
        lot.entered = now.day;
        lot.deadline = now.day + now.settings.term;
        lot.due = due;
        lot.stored = quantity;
        now.lotCount = number + 1;
        return number;
    }

    private int releaseUnits(int lotNumber, int quantity) {
        Lot lot = now.findLot(lotNumber);
        if (lot == null) {
            return UNKNOWN;
        }
        int error = errorOfTaking(lot, quantity);
        if (error != 0) {
            return error;
        }
        int duty = lot.dutyOfNext(0, quantity);
        Owner owner = now.findOwner(lot.owner);
        if (owner == null || owner.cash < duty) {
            return refuse(TOO_LITTLE_CASH);
        }
        owner.cash -= duty;
        lot.paid += duty;
        lot.stored -= quantity;
        return duty;
    }

    private int sampleUnits(int lotNumber, int quantity) {
        Lot lot = now.findLot(lotNumber);
        if (lot == null) {
            return UNKNOWN;
        }
        int error = errorOfTaking(lot, quantity);
        if (error != 0) {
            return error;
        }
        int free = Math.min(quantity, now.settings.freeUnitsOf(lot));
        int freeDuty = lot.dutyOfNext(0, free);
        int duty = lot.dutyOfNext(free, quantity - free);
        Owner owner = now.findOwner(lot.owner);
        if (owner == null || owner.cash < duty) {
            return refuse(TOO_LITTLE_CASH);
        }
        owner.cash -= duty;
        lot.discharged += freeDuty;
        lot.paid += duty;
        lot.sampled += quantity;
        lot.stored -= quantity;
        return duty;
    }

    private int exportUnits(int lotNumber, int quantity) {
        Lot lot = now.findLot(lotNumber);
        if (lot == null) {
            return UNKNOWN;
        }
        int error = errorOfTaking(lot, quantity);
        if (error != 0) {
            return error;
        }
        int number = now.exportCount;
        if (number >= EXPORTS) {
            return refuse(ALL_NUMBERS_USED);
        }
        Export export = now.exports[number];
        export.lot = lotNumber;
        export.units = quantity;
        export.duty = lot.dutyOfNext(0, quantity);
        export.deadline = now.day + now.settings.proof;
        export.state = Export.WAITING;
        lot.stored -= quantity;
        now.exportCount = number + 1;
        return number;
    }

    private int proveExport(int number) {
        Export export = now.findExport(number);
        if (export == null) {
            return UNKNOWN;
        }
        Lot lot = now.findLot(export.lot);
        if (lot == null || !export.waits()) {
            return refuse(NOT_WAITING);
        }
        export.state = Export.PROVED;
        lot.discharged += export.duty;
        return export.duty;
    }

    private int destroyUnits(int lotNumber, int quantity) {
        Lot lot = now.findLot(lotNumber);
        if (lot == null) {
            return UNKNOWN;
        }
        int error = errorOfTaking(lot, quantity);
        if (error != 0) {
            return error;
        }
        long cost = (long) quantity * now.settings.fee;
        Owner owner = now.findOwner(lot.owner);
        if (owner == null || owner.cash < cost) {
            return refuse(TOO_LITTLE_CASH);
        }
        int duty = lot.dutyOfNext(0, quantity);
        owner.cash -= cost;
        now.fees += cost;
        lot.discharged += duty;
        lot.stored -= quantity;
        return duty;
    }

    private int giveLot(int lotNumber, int ownerNumber) {
        Lot lot = now.findLot(lotNumber);
        Owner owner = now.findOwner(ownerNumber);
        if (lot == null || owner == null) {
            return UNKNOWN;
        }
        int previous = lot.owner;
        if (previous == ownerNumber) {
            return BAD_VALUE;
        }
        if (owner.debt > 0) {
            return refuse(OWES);
        }
        if (!now.settings.covers(owner.guarantee, now.useOf(ownerNumber) + lot.suspended())) {
            return refuse(NOT_COVERED);
        }
        lot.owner = ownerNumber;
        return previous;
    }

    private int passDays(int days) {
        if (outside(days, 1, MOST_DAYS)) {
            return BAD_VALUE;
        }
        // What is called on one day changes nothing of what is called on another, nor does the
        // order matter to guarantees and debts: so one look after the last day finds the same.
        now.day += days;
        return now.loseExports() + now.seizeLots();
    }

    private int carryOutOrders() {
        int done = 0;
        orders.goToStart();
        while (done < Orders.MOST_CHARACTERS && !orders.atEnd() && orders.readOrder() && carryOutOrder() >= 0) {
            done++;
            orders.skipSeparator();
        }
        return done;
    }

    private int carryOutOrder() {
        int[] numbers = orders.numbers;
        switch (orders.word) {
            case Orders.ENTER: return enterLot(numbers[0], numbers[1], numbers[2], numbers[3]);
            case Orders.RELEASE: return releaseUnits(numbers[0], numbers[1]);
            case Orders.SAMPLE: return sampleUnits(numbers[0], numbers[1]);
            case Orders.EXPORT: return exportUnits(numbers[0], numbers[1]);
            case Orders.PROVE: return proveExport(numbers[0]);
            case Orders.DESTROY: return destroyUnits(numbers[0], numbers[1]);
            case Orders.GIVE: return giveLot(numbers[0], numbers[1]);
            default: return passDays(numbers[0]);
        }
    }

    // ---- helpers of several calls

    private static boolean outside(int number, int least, int most) {
        return number < least || number > most;
    }

    private int refuse(int why) {
        reason = why;
        return REFUSED;
    }

    /** Keeps what history.prepare() laid aside; errors and NONE alone are negative answers of acts. */
    private int finishAct(int answer) {
        if (answer >= 0) {
            history.addPrepared();
        }
        return answer;
    }

    private int errorOfTaking(Lot lot, int quantity) {
        if (outside(quantity, 1, MOST_UNITS)) {
            return BAD_VALUE;
        }
        if (quantity > lot.stored) {
            return refuse(TOO_FEW_UNITS);
        }
        return 0;
    }

    private void writeDocument(int number, Lot lot) {
        document.setLength(0);
        document.append('L').append(number);
        document.append('/').append(lot.owner);
        document.append(':').append(lot.stored);
        document.append('+').append(now.waitingUnitsOf(number));
        int firstUnwarned = now.day + WARNED_DAYS + 1;
        if (lot.endsBefore(firstUnwarned) || now.hasExportEndingBefore(number, firstUnwarned)) {
            document.append('!');
        }
    }

    /** All that undo() and restore() bring back. Rows that have no number yet are blank. */
    private static final class State {
        final Settings settings;
        final Owner[] owners;
        final Lot[] lots;
        final Export[] exports;
        int ownerCount;
        int lotCount;
        int exportCount;
        int seizedLots;
        int day;
        long fees;
        long deposits;

        State() {
            settings = new Settings();
            owners = new Owner[OWNERS];
            for (int i = 0; i < OWNERS; i++) {
                owners[i] = new Owner();
            }
            lots = new Lot[LOTS];
            for (int i = 0; i < LOTS; i++) {
                lots[i] = new Lot();
            }
            exports = new Export[EXPORTS];
            for (int i = 0; i < EXPORTS; i++) {
                exports[i] = new Export();
            }
        }

        void copyFrom(State other) {
            settings.copyFrom(other.settings);
            // The blank rows are copied too, so that no number is given to a row that was used.
            for (int i = 0; i < OWNERS; i++) {
                owners[i].copyFrom(other.owners[i]);
            }
            for (int i = 0; i < LOTS; i++) {
                lots[i].copyFrom(other.lots[i]);
            }
            for (int i = 0; i < EXPORTS; i++) {
                exports[i].copyFrom(other.exports[i]);
            }
            ownerCount = other.ownerCount;
            lotCount = other.lotCount;
            exportCount = other.exportCount;
            seizedLots = other.seizedLots;
            day = other.day;
            fees = other.fees;
            deposits = other.deposits;
        }

        Owner findOwner(int number) {
            return number < 0 || number >= ownerCount ? null : owners[number];
        }

        Lot findLot(int number) {
            return number < 0 || number >= lotCount ? null : lots[number];
        }

        Export findExport(int number) {
            return number < 0 || number >= exportCount ? null : exports[number];
        }

        int useOf(int owner) {
            int use = 0;
            for (int i = 0; i < lotCount; i++) {
                if (lots[i].owner == owner) {
                    use += lots[i].suspended();
                }
            }
            return use;
        }

        int storedLotsOf(int owner) {
            int stored = 0;
            for (int i = 0; i < lotCount; i++) {
                if (lots[i].owner == owner && lots[i].stored > 0) {
                    stored++;
                }
            }
            return stored;
        }

        int sumOfLots(int part) {
            int sum = 0;
            for (int i = 0; i < lotCount; i++) {
                sum += lots[i].partOfDuty(part);
            }
            return sum;
        }

        int calledOfAll() {
            int called = 0;
            for (int i = 0; i < ownerCount; i++) {
                called += owners[i].called;
            }
            return called;
        }

        int waitingUnitsOf(int lot) {
            int units = 0;
            for (int i = 0; i < exportCount; i++) {
                if (exports[i].lot == lot && exports[i].waits()) {
                    units += exports[i].units;
                }
            }
            return units;
        }

        int waitingExports() {
            int waiting = 0;
            for (int i = 0; i < exportCount; i++) {
                if (exports[i].waits()) {
                    waiting++;
                }
            }
            return waiting;
        }

        boolean hasExportEndingBefore(int lot, int limit) {
            for (int i = 0; i < exportCount; i++) {
                if (exports[i].lot == lot && exports[i].endsBefore(limit)) {
                    return true;
                }
            }
            return false;
        }

        int dutyEndingBefore(int limit) {
            int duty = 0;
            for (int i = 0; i < exportCount; i++) {
                if (exports[i].endsBefore(limit)) {
                    duty += exports[i].duty;
                }
            }
            for (int i = 0; i < lotCount; i++) {
                if (lots[i].endsBefore(limit)) {
                    duty += lots[i].dutyOfNext(0, lots[i].stored);
                }
            }
            return duty;
        }

        int loseExports() {
            int called = 0;
            for (int i = 0; i < exportCount; i++) {
                Export export = exports[i];
                Lot lot = findLot(export.lot);
                if (lot != null && export.endsBefore(day)) {
                    export.state = Export.LOST;
                    callDuty(lot, export.duty);
                    called += export.duty;
                }
            }
            return called;
        }

        int seizeLots() {
            int called = 0;
            for (int i = 0; i < lotCount; i++) {
                Lot lot = lots[i];
                if (lot.endsBefore(day)) {
                    int duty = lot.dutyOfNext(0, lot.stored);
                    lot.stored = 0;
                    seizedLots++;
                    callDuty(lot, duty);
                    called += duty;
                }
            }
            return called;
        }

        private void callDuty(Lot lot, int duty) {
            lot.paid += duty;
            Owner owner = findOwner(lot.owner);
            if (owner != null) {
                owner.answerFor(duty);
            }
        }
    }

    private static final class Settings {
        final int[] rates;
        int term;
        int proof;
        int cover;
        int allowance;
        int fee;

        Settings() {
            rates = new int[KINDS];
            for (int i = 0; i < KINDS; i++) {
                rates[i] = 100;
            }
            term = 100;
            proof = 30;
            cover = 20;
            allowance = 20;
            fee = 10;
        }

        void copyFrom(Settings other) {
            System.arraycopy(other.rates, 0, rates, 0, KINDS);
            term = other.term;
            proof = other.proof;
            cover = other.cover;
            allowance = other.allowance;
            fee = other.fee;
        }

        int dutyOf(int kind, int value) {
            if (kind < 0 || kind >= KINDS) {
                return 0;
            }
            return (int) ((long) value * rates[kind] / PER_MILLE);
        }

        boolean covers(int guarantee, int use) {
            return (long) use * cover / PER_CENT <= guarantee;
        }

        /** The allowance may have been lowered since, so that more than all of it is used up. */
        int freeUnitsOf(Lot lot) {
            int allowed = (int) ((long) lot.quantity * allowance / PER_MILLE);
            return Math.max(0, allowed - lot.sampled);
        }
    }

    private static final class Owner {
        long cash;
        int guarantee;
        int debt;
        int called;

        void copyFrom(Owner other) {
            cash = other.cash;
            guarantee = other.guarantee;
            debt = other.debt;
            called = other.called;
        }

        void payIn(int amount) {
            int toDebt = Math.min(debt, amount);
            debt -= toDebt;
            cash += amount - toDebt;
        }

        void answerFor(int duty) {
            int fromGuarantee = guarantee < duty ? guarantee : duty;
            guarantee -= fromGuarantee;
            debt += duty - fromGuarantee;
            called += duty;
        }
    }

    private static final class Lot {
        static final int DUE = 0;
        static final int SUSPENDED = 1;
        static final int PAID = 2;
        static final int DISCHARGED = 3;

        int owner;
        int kind;
        int quantity;
        int value;
        int entered;
        int deadline;
        int due;
        int stored;
        int paid;
        int discharged;
        int sampled;

        void copyFrom(Lot other) {
            owner = other.owner;
            kind = other.kind;
            quantity = other.quantity;
            value = other.value;
            entered = other.entered;
            deadline = other.deadline;
            due = other.due;
            stored = other.stored;
            paid = other.paid;
            discharged = other.discharged;
            sampled = other.sampled;
        }

        /** What is neither paid nor discharged: the parts of the duty always add up to the whole. */
        int suspended() {
            return due - paid - discharged;
        }

        int partOfDuty(int part) {
            switch (part) {
                case DUE: return due;
                case SUSPENDED: return suspended();
                case PAID: return paid;
                default: return discharged;
            }
        }

        /** The duty of units that are taken after some others that are still to be taken. */
        int dutyOfNext(int others, int units) {
            int taken = quantity - stored + others;
            return dutyOfFirst(taken + units) - dutyOfFirst(taken);
        }

        private int dutyOfFirst(int units) {
            if (quantity <= 0) {
                return 0;
            }
            return (int) ((long) due * units / quantity);
        }

        boolean endsBefore(int limit) {
            return stored > 0 && deadline < limit;
        }
    }

    private static final class Export {
        static final int WAITING = 0;
        static final int PROVED = 1;
        static final int LOST = 2;

        int lot;
        int units;
        int duty;
        int deadline;
        int state;

        void copyFrom(Export other) {
            lot = other.lot;
            units = other.units;
            duty = other.duty;
            deadline = other.deadline;
            state = other.state;
        }

        boolean waits() {
            return state == WAITING;
        }

        boolean endsBefore(int limit) {
            return waits() && deadline < limit;
        }
    }

    /** A ring with one row more than states are kept: there an act lays aside the state before it. */
    private static final class History {
        private static final int MOST = 6;
        private static final int ROWS = MOST + 1;

        private final State[] rows;
        private int first;
        int size;

        History() {
            rows = new State[ROWS];
            for (int i = 0; i < ROWS; i++) {
                rows[i] = new State();
            }
        }

        void prepare(State now) {
            rows[(first + size) % ROWS].copyFrom(now);
        }

        void addPrepared() {
            if (size < MOST) {
                size++;
            } else {
                first = (first + 1) % ROWS;
            }
        }

        boolean takeBack(State now) {
            if (size == 0) {
                return false;
            }
            size--;
            now.copyFrom(rows[(first + size) % ROWS]);
            return true;
        }
    }

    /** The text, and a reader that goes through it order by order. */
    private static final class Orders {
        static final int MOST_CHARACTERS = 80;
        static final int NO_FAULT = -1;

        static final int ENTER = 0;
        static final int RELEASE = 1;
        static final int SAMPLE = 2;
        static final int EXPORT = 3;
        static final int PROVE = 4;
        static final int DESTROY = 5;
        static final int GIVE = 6;
        static final int DAYS = 7;

        private static final int WORDS = 8;
        private static final int NO_WORD = -1;
        private static final int NO_NUMBER = -1;
        private static final int MOST_NUMBERS = 4;
        private static final int MOST_DIGITS = 8;

        private final char[] text;
        int length;
        private int position;
        int word;
        final int[] numbers;

        Orders() {
            text = new char[MOST_CHARACTERS];
            numbers = new int[MOST_NUMBERS];
        }

        boolean append(char character) {
            if (length >= MOST_CHARACTERS) {
                return false;
            }
            text[length] = character;
            length++;
            return true;
        }

        int findFault() {
            goToStart();
            for (int i = 0; i <= length; i++) {
                if (!readOrder()) {
                    return position;
                }
                if (atEnd()) {
                    return NO_FAULT;
                }
                skipSeparator();
            }
            return position;
        }

        void goToStart() {
            position = 0;
        }

        boolean atEnd() {
            return position >= length;
        }

        void skipSeparator() {
            position++;
        }

        /** If the order is faulty, the position is left where the fault is. */
        boolean readOrder() {
            int end = endOfToken(position);
            word = wordBetween(position, end);
            if (word == NO_WORD) {
                return false;
            }
            position = end;
            String places = placesOf(word);
            for (int i = 0; i < places.length() && i < MOST_NUMBERS; i++) {
                if (atEnd() || text[position] != ' ') {
                    return false;
                }
                position++;
                end = endOfToken(position);
                numbers[i] = numberBetween(position, end, places.charAt(i));
                if (numbers[i] == NO_NUMBER) {
                    return false;
                }
                position = end;
            }
            return atEnd() || text[position] == ';';
        }

        private int endOfToken(int from) {
            for (int i = from; i < length; i++) {
                if (text[i] == ' ' || text[i] == ';') {
                    return i;
                }
            }
            return length;
        }

        private int wordBetween(int from, int to) {
            for (int i = 0; i < WORDS; i++) {
                if (standsBetween(from, to, wordOf(i))) {
                    return i;
                }
            }
            return NO_WORD;
        }

        private boolean standsBetween(int from, int to, String wanted) {
            if (to - from != wanted.length()) {
                return false;
            }
            for (int i = from; i < to; i++) {
                if (text[i] != wanted.charAt(i - from)) {
                    return false;
                }
            }
            return true;
        }

        private int numberBetween(int from, int to, char place) {
            if (to <= from || to - from > MOST_DIGITS) {
                return NO_NUMBER;
            }
            int number = 0;
            for (int i = from; i < to; i++) {
                if (text[i] < '0' || text[i] > '9') {
                    return NO_NUMBER;
                }
                number = number * 10 + (text[i] - '0');
            }
            return outside(number, leastAt(place), mostAt(place)) ? NO_NUMBER : number;
        }

        private static String wordOf(int order) {
            switch (order) {
                case ENTER: return "enter";
                case RELEASE: return "release";
                case SAMPLE: return "sample";
                case EXPORT: return "export";
                case PROVE: return "prove";
                case DESTROY: return "destroy";
                case GIVE: return "give";
                default: return "days";
            }
        }

        /** The letters are those that the document gives to the numbers of an order. */
        private static String placesOf(int order) {
            switch (order) {
                case ENTER: return "OKQV";
                case PROVE: return "E";
                case GIVE: return "LO";
                case DAYS: return "N";
                default: return "LQ";
            }
        }

        private static int leastAt(char place) {
            return place == 'Q' || place == 'N' ? 1 : 0;
        }

        private static int mostAt(char place) {
            switch (place) {
                case 'O': return OWNERS - 1;
                case 'K': return KINDS - 1;
                case 'L': return LOTS - 1;
                case 'E': return EXPORTS - 1;
                case 'Q': return MOST_UNITS;
                case 'V': return MOST_VALUE;
                default: return MOST_DAYS;
            }
        }
    }
}
