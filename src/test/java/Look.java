import java.util.ArrayList;
import java.util.List;

/**
 * The answers to all questions about a state. The reason and the number of recorded states are left
 * out, as they are no part of a state.
 */
final class Look {
    private static final int MOST_CALLS = 512;
    private static final List<String> NAMES = new ArrayList<>();
    private static final List<Call> QUESTIONS = new ArrayList<>();

    static {
        askOfTheStore();
        for (int owner = 0; owner < 5; owner++) {
            askOfOwner(owner);
        }
        for (int lot = 0; lot < 30; lot++) {
            askOfLot(lot);
        }
        for (int export = 0; export < 30; export++) {
            askOfExport(export);
        }
    }

    private Look() {
    }

    private static void ask(String name, Call question) {
        NAMES.add(name);
        QUESTIONS.add(question);
    }

    private static void askOfTheStore() {
        for (int i = 0; i <= 10; i++) {
            int what = i;
            ask("count(" + what + ")", s -> s.count(what));
        }
        for (int i = 0; i <= 6; i++) {
            int what = i;
            ask("account(" + what + ")", s -> s.account(what));
        }
        for (int i = 0; i <= 5; i++) {
            int kind = i;
            ask("rate(" + kind + ")", s -> s.rate(kind));
        }
        ask("nextDeadline()", s -> s.nextDeadline());
        for (int i : new int[] {1, 2, 10, 30, 31, 100}) {
            int days = i;
            ask("calledIn(" + days + ")", s -> s.calledIn(days));
        }
    }

    private static void askOfOwner(int owner) {
        for (int i = 0; i <= 6; i++) {
            int what = i;
            ask("owner(" + owner + ", " + what + ")", s -> s.owner(owner, what));
        }
        for (int i = 0; i <= 5; i++) {
            int kind = i;
            ask("greatestValue(" + owner + ", " + kind + ")", s -> s.greatestValue(owner, kind));
        }
    }

    private static void askOfLot(int lot) {
        for (int i = 0; i <= 12; i++) {
            int what = i;
            ask("lot(" + lot + ", " + what + ")", s -> s.lot(lot, what));
        }
        ask("documentLength(" + lot + ")", s -> s.documentLength(lot));
        for (int i = 0; i <= 22; i++) {
            int index = i;
            ask("documentAt(" + lot + ", " + index + ")", s -> s.documentAt(lot, index));
        }
    }

    private static void askOfExport(int export) {
        for (int i = 0; i <= 4; i++) {
            int what = i;
            ask("exported(" + export + ", " + what + ")", s -> s.exported(export, what));
        }
    }

    static String nameOf(int question) {
        return NAMES.get(question);
    }

    static long[] at(Story story) {
        long[] answers = new long[QUESTIONS.size()];
        BondedStore store = null;
        int questions = MOST_CALLS - story.length();
        Due.isTrue("a story after which something can be asked", questions > 0);
        for (int i = 0; i < answers.length && questions > 0; i++) {
            if (i % questions == 0) {
                store = story.told();
            }
            answers[i] = QUESTIONS.get(i).on(store);
        }
        return answers;
    }
}
