import java.util.ArrayList;
import java.util.List;

/**
 * A run of calls that can be told to one new store after the other. What a run leaves is asked of
 * many stores, because nothing is promised of a store's answers after 512 calls.
 */
final class Story {
    private static final Call UNDO = s -> s.undo();
    private static final int MOST_STATES = 6;

    private final List<Call> calls;
    private List<Ending> endings;

    /** What can be seen after some more calls, which bring out the history, the slots and the text. */
    private record Ending(String name, long answer, int states, long[] look) {
    }

    private Story(List<Call> calls) {
        this.calls = calls;
    }

    static Story of(Call... calls) {
        return new Story(List.of(calls));
    }

    Story and(Call... more) {
        List<Call> all = new ArrayList<>(calls);
        all.addAll(List.of(more));
        return new Story(all);
    }

    Story times(int times, Call call) {
        Story story = this;
        for (int i = 0; i < times; i++) {
            story = story.and(call);
        }
        return story;
    }

    /** The text is emptied first. */
    Story text(String text) {
        Story story = and(s -> s.clearText());
        for (char character : text.toCharArray()) {
            story = story.and(s -> s.type(character));
        }
        return story;
    }

    int length() {
        return calls.size();
    }

    BondedStore told() {
        BondedStore store = new BondedStore();
        for (Call call : calls) {
            call.on(store);
        }
        return store;
    }

    void answers(String name, Call call, long want) {
        Due.is(name, call.on(told()), want);
    }

    /** The rows of a table are what is asked with 0, 1, 2 and so on. */
    void shows(String name, Table table, long... want) {
        BondedStore store = told();
        for (int what = 0; what < want.length; what++) {
            Due.is(name + ", " + what, table.at(store, what), want[what]);
        }
    }

    interface Table {
        long at(BondedStore store, int what);
    }

    void document(int lot, String want) {
        BondedStore store = told();
        Due.is("length of " + want, store.documentLength(lot), want.length());
        for (int i = 0; i < want.length(); i++) {
            Due.is("character " + i + " of " + want, store.documentAt(lot, i), want.charAt(i));
        }
        Due.is("behind " + want, store.documentAt(lot, want.length()), Due.NONE);
    }

    /** An error or NONE, with which nothing changes, not even the reason. */
    void isError(String name, Call call, int error) {
        BondedStore store = told();
        int reason = store.count(11);
        Due.is(name, call.on(store), error);
        Due.is(name + ", the reason then", store.count(11), reason);
        leavesAll(name, and(call));
    }

    /** A refusal, with which nothing changes but the reason. */
    void isRefused(String name, Call call, int reason) {
        BondedStore store = told();
        Due.isTrue(name + " with another reason before", store.count(11) != reason);
        Due.is(name, call.on(store), Due.REFUSED);
        Due.is(name + ", the reason", store.count(11), reason);
        leavesAll(name, and(call));
    }

    /** A question changes nothing, and its answer is the same when it is asked again. */
    void isQuestion(String name, Call call, long want) {
        BondedStore store = told();
        int reason = store.count(11);
        Due.is(name, call.on(store), want);
        Due.is(name + " again", call.on(store), want);
        Due.is(name + ", the reason then", store.count(11), reason);
        leavesAll(name, and(call));
    }

    /** An act records the state before it, which undo() brings back; the reason stays. */
    void isAct(String name, Call call, long want) {
        BondedStore store = told();
        int reason = store.count(11);
        int states = store.count(12);
        Due.is(name, call.on(store), want);
        Due.is(name + ", the reason then", store.count(11), reason);
        Due.is(name + ", states then", store.count(12), Math.min(MOST_STATES, states + 1));
        Due.is(name + ", undone", store.undo(), Math.min(MOST_STATES - 1, states));
        sameLook(name + ", undone", Look.at(this), Look.at(and(call, UNDO)));
        if (states < MOST_STATES) {
            leavesAll(name + ", undone", and(call, UNDO));
        }
    }

    /** A call that changes nothing of the state, and records nothing. */
    void isNoAct(String name, Call call, long want) {
        BondedStore store = told();
        int reason = store.count(11);
        int states = store.count(12);
        Due.is(name, call.on(store), want);
        Due.is(name + ", the reason then", store.count(11), reason);
        Due.is(name + ", states then", store.count(12), states);
        sameLook(name, Look.at(this), Look.at(and(call)));
        sameLook(name + ", then undo", Look.at(and(UNDO)), Look.at(and(call, UNDO)));
    }

    /** The state is the same in both stories. */
    void isLike(String name, Story other) {
        sameLook(name, Look.at(this), Look.at(other));
    }

    private void leavesAll(String name, Story changed) {
        List<Ending> want = endings();
        List<Ending> got = changed.endings();
        for (int i = 0; i < want.size(); i++) {
            Ending due = want.get(i);
            String at = name + ", then " + due.name;
            Due.is(at, got.get(i).answer, due.answer);
            Due.is(at + ", states", got.get(i).states, due.states);
            sameLook(at, due.look, got.get(i).look);
        }
    }

    private static void sameLook(String name, long[] want, long[] got) {
        for (int i = 0; i < want.length; i++) {
            Due.is(name + ": " + Look.nameOf(i), got[i], want[i]);
        }
    }

    private List<Ending> endings() {
        if (endings == null) {
            endings = new ArrayList<>();
            end("nothing", s -> 0);
            Story undone = this;
            for (int i = 0; i <= MOST_STATES; i++) {
                undone.endOf(endings, "undo()", UNDO);
                undone = undone.and(UNDO);
            }
            end("restore(0)", s -> s.restore(0));
            end("restore(1)", s -> s.restore(1));
            end("runOrders()", s -> s.runOrders());
            end("clearText()", s -> s.clearText());
        }
        return endings;
    }

    private void end(String name, Call call) {
        endOf(endings, name, call);
    }

    private void endOf(List<Ending> list, String name, Call call) {
        BondedStore store = told();
        long answer = call.on(store);
        list.add(new Ending(name, answer, store.count(12), Look.at(and(call))));
    }
}
