/** Promises 16 to 18: the text and its orders. */
public final class OrdersTest {
    private OrdersTest() {
    }

    public static void main(String[] args) {
        promise16Type();
        promise17ClearText();
        promise18Faults();
        promise18Limits();
        promise18AllOrders();
        promise18StopsAtErrors();
        promise18OneAct();
        Due.end();
    }

    private static void promise16Type() {
        BondedStore store = new BondedStore();
        char[] any = {'a', ' ', ';', (char) 0, (char) 255, (char) 256, (char) 65535};
        for (int i = 0; i < 80; i++) {
            Due.is("type", store.type(any[i % any.length]), i + 1);
        }
        Due.is("81st", store.type('a'), Due.FULL);
        Due.is("81st again", store.type((char) 0), Due.FULL);
        Due.is("length", store.clearText(), 80);
        Due.is("type after clearing", store.type('d'), 1);
        Due.is("no act", store.count(12), 0);
    }

    private static void promise17ClearText() {
        BondedStore store = new BondedStore();
        Due.is("empty", store.clearText(), 0);
        store.type('x');
        store.type('y');
        Due.is("two", store.clearText(), 2);
        Due.is("empty again", store.clearText(), 0);
        Due.is("no act", store.count(12), 0);
        Due.write(store, "days 1");
        Due.is("addOwner", store.addOwner(), 0);
        Due.is("undo", store.undo(), 0);
        Due.is("undo leaves the text", store.runOrders(), 1);
        Due.is("keep", store.keep(0), 0);
        Due.is("clear", store.clearText(), 6);
        Due.is("restore", store.restore(0), 0);
        Due.is("restore leaves the text", store.runOrders(), -100);
    }

    private static void fault(String text, int index) {
        BondedStore store = Due.storeOf(1, 100000000);
        Due.is("fault of '" + text + "'", Due.run(store, text), -100 - index);
        Due.is("nothing done by '" + text + "'", store.count(0), 0);
        Due.is("nothing recorded by '" + text + "'", store.count(12), 2);
        Due.is("no reason by '" + text + "'", store.count(11), 0);
        Due.is("the text '" + text + "' stays", store.clearText(), text.length());
    }

    private static void promise18Faults() {
        fault("", 0);
        fault(" ", 0);
        fault(";", 0);
        fault(" days 1", 0);
        fault("day", 0);
        fault("dayss 1", 0);
        fault("Days 1", 0);
        fault("dayt 1", 0);
        fault("pass 1", 0);
        fault("days", 4);
        fault("days ", 5);
        fault("days;", 4);
        fault("days ;", 5);
        fault("days  1", 5);
        fault("days 1 ", 6);
        fault("days 1 1", 6);
        fault("days 1;", 7);
        fault("days 1;;", 7);
        fault("days 1; ", 7);
        fault("days 1; days 1", 7);
        fault("days 1;day", 7);
        fault("days 1;days", 11);
        fault("days 1;days 1;", 14);
        fault("days 1;days 0;nonsense", 12);
        fault("days 1x", 5);
        fault("days x1", 5);
        fault("days -1", 5);
        fault("days +1", 5);
        fault("days 1.0", 5);
        fault("days 1/", 5);
        fault("days 1:", 5);
        fault("days \u0661", 5);
        fault("days\u00a01", 0);
        fault("days\t1", 0);
        fault("enter", 5);
        fault("enter 0 1 2", 11);
        fault("enter 0 1 2;", 11);
        fault("enter 0 1 2 ", 12);
        fault("enter 0 1 2 3 4", 13);
        fault("enter 0  2 3", 8);
        fault("enter 0 ;2 3", 8);
        fault("release 0", 9);
        fault("release 0;1", 9);
        fault("prove 0 1", 7);
        fault("give 0 0 0", 8);
        fault("days 1,days 1", 5);
        StringBuilder full = new StringBuilder("days 1;");
        while (full.length() < 77) {
            full.append("days 1;");
        }
        fault(full.append("day").toString(), 77);
        fault("days 1;" + "prove 1;".repeat(8) + "days 100;", 80);
    }

    private static void limit(String before, String least, String most, String... bad) {
        accepts(before + " " + least);
        accepts(before + " " + most);
        for (String number : bad) {
            fault(before + " " + number, before.length() + 1);
        }
    }

    private static void accepts(String text) {
        BondedStore store = Due.storeOf(1, 100000000);
        Due.isTrue("no fault in '" + text + "'", Due.run(store, text) >= 0);
        Due.is("one act by '" + text + "'", store.count(12), 3);
    }

    private static void promise18Limits() {
        limit("days", "1", "100", "0", "101", "000000001", "00000000", "", "99999999", "999999999");
        limit("days", "00000001", "00000100", "00000101");
        limit("prove", "0", "29", "30", "-1", "000000000");
        limit("enter", "0 0 1 0", "4 5 1000000 10000000", "5 0 1 0", "x 9 9 9");
        limit("enter 0", "0 1 0", "5 1 0", "6 1 0");
        limit("enter 0 0", "1 0", "1000000 0", "0 0", "1000001 0");
        limit("enter 0 0 1", "0", "10000000", "10000001", "010000000");
        for (String word : new String[] {"release", "sample", "export", "destroy"}) {
            limit(word, "0 1", "29 1000000", "30 1", "100 0");
            limit(word + " 0", "1", "01000000", "0", "1000001");
        }
        limit("give", "0 0", "29 4", "30 0");
        limit("give 0", "0", "4", "5", "00000005");
    }

    private static void promise18AllOrders() {
        BondedStore store = Due.storeOf(2, 100000000);
        store.deposit(0, 10000);
        String first = "enter 0 1 100 5000;release 0 10;sample 0 3;export 0 20;export 00 05";
        Due.is("first orders", Due.run(store, first), 5);
        Due.is("kind", store.lot(0, 1), 1);
        Due.is("value", store.lot(0, 3), 5000);
        Due.is("paid", store.lot(0, 9), 55);
        Due.is("in the store", store.lot(0, 7), 62);
        Due.is("more orders", Due.run(store, "prove 1;destroy 0 2;give 0 1;days 30;days 1;days 100"), 6);
        Due.is("proved", store.exported(1, 4), 1);
        Due.is("lost", store.exported(0, 4), 2);
        Due.is("fees", store.account(5), 20);
        Due.is("owner", store.lot(0, 0), 1);
        Due.is("day", store.count(0), 131);
        Due.is("called", store.owner(1, 6), 400);
        Due.is("again without clearing", store.runOrders(), 0);
        Due.is("reason", store.count(11), 6);
        Due.is("orders with one number", Due.run(store, "enter 0 0 9 9;export 1 5;prove 2"), 3);
        Due.is("the third is proved", store.exported(2, 4), 1);
        Due.is("shortest orders", Due.run(store,
                "days 1;days 1;days 1;days 1;days 1;days 1;days 1;days 1;days 1;days 1;days 1"), 11);
        Due.is("day", store.count(0), 142);
        Due.is("text of 80", Due.run(store,
                "days 1;days 01;days 01;days 01;days 01;days 01;days 01;days 01;days 001;days 001"), 10);
    }

    private static void promise18StopsAtErrors() {
        BondedStore store = Due.storeOf(1, 100000000);
        Due.is("unknown owner", Due.run(store, "days 1;enter 1 0 1 0;days 1"), 1);
        Due.is("day", store.count(0), 1);
        Due.is("no reason", store.count(11), 0);
        Due.is("recorded", store.count(12), 3);
        Due.is("unknown lot", Due.run(store, "release 0 1;days 1"), 0);
        Due.is("recorded with no order", store.count(12), 4);
        Due.is("unknown export", Due.run(store, "enter 0 0 7 1000;prove 0;days 1"), 1);
        Due.is("the same owner", Due.run(store, "days 1;days 1;give 0 0;days 1"), 2);
        Due.is("refused", Due.run(store, "days 1;release 0 8;days 1"), 1);
        Due.is("its reason", store.count(11), 4);
        Due.is("refused", Due.run(store, "release 0 1"), 0);
        Due.is("its reason", store.count(11), 3);
        Due.is("day", store.count(0), 4);
        Due.is("faults keep the reason", Due.run(store, "prove"), -105);
        Due.is("its reason", store.count(11), 3);
        Due.is("a fault behind hinders all", Due.run(store, "days 1;days 1;days"), -118);
        Due.is("day", store.count(0), 4);
    }

    private static void promise18OneAct() {
        BondedStore store = Due.storeOf(1, 100000000);
        Due.is("orders", Due.run(store, "enter 0 0 7 10;enter 0 0 7 20;export 0 1;days 40"), 4);
        Due.is("one act", store.count(12), 3);
        Due.is("undo", store.undo(), 2);
        Due.is("lots", store.count(2), 0);
        Due.is("exports", store.count(3), 0);
        Due.is("day", store.count(0), 0);
        Due.is("the text stays", store.runOrders(), 4);
        Due.is("lots", store.count(2), 2);
        Due.is("refused", Due.run(store, "release 0 7"), 0);
        Due.is("undo", store.undo(), 3);
        Due.is("undo leaves the reason", store.count(11), 4);
        Due.is("undo of nothing leaves the lots", store.count(2), 2);
    }
}
