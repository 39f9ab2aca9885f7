import java.util.ArrayList;
import java.util.List;

/**
 * Every run of four calls out of a few that change or deliver, and then all that three replicas can be
 * asked: WeaveDesk answers as PlainModel does.
 */
public final class ShortRunsTest {
    private static final int CALLS = 4;
    private static final int ASKED_REPLICAS = 3;
    private static int runs = 0;
    private static int wrong = 0;

    private final List<String> told = new ArrayList<>();
    private final WeaveDesk desk = new WeaveDesk();
    private final PlainModel model = new PlainModel();

    public static void main(String[] args) {
        tryAll("", """
                put(0, -1, 0, 0, 1)
                put(1, -1, 0, 0, 1)
                put(1, -1, 0, 1, 0)
                drop(0, -1, 0)
                add(1, -1, 0, 2)
                sync(0, 1)
                sync(1, 0)
                give(0, 2)
                give(1, 2)""");
        tryAll("""
                put(0, -1, 0, 2, 0)
                insert(0, 0, 0, 0, 1)
                sync(0, 1)""", """
                insert(0, 0, 0, 0, 2)
                insert(1, 0, 1, 0, 3)
                set(0, 0, 0, 0, 4)
                set(1, 0, 0, 1, 0)
                drop(1, 0, 0)
                add(0, 0, 0, 5)
                sync(0, 1)
                sync(1, 0)
                give(2, 1)""");
        tryAll("""
                put(0, -1, 0, 1, 0)
                put(0, 0, 1, 2, 0)
                insert(0, 1, 0, 0, 1)""", """
                set(0, 1, 0, 0, 2)
                add(0, 1, 0, 3)
                insert(0, 1, 1, 0, 4)
                drop(0, 1, 0)
                give(0, 1)
                give(1, 1)
                give(2, 1)
                give(3, 1)
                sync(1, 2)""");
        System.out.println(runs + " runs, " + wrong + " with an answer not as due");
        if (wrong != 0 || runs == 0) {
            System.exit(1);
        }
    }

    private static void tryAll(String before, String calls) {
        List<String> choice = Run.linesOf(calls);
        int all = (int) Math.pow(choice.size(), CALLS);
        for (int i = 0; i < all && wrong < 5; i++) {
            List<String> run = new ArrayList<>(Run.linesOf(before));
            int left = i;
            for (int k = 0; k < CALLS; k++) {
                run.add(choice.get(left % choice.size()));
                left /= choice.size();
            }
            runs++;
            wrong += new ShortRunsTest().agree(run) ? 0 : 1;
        }
    }

    private boolean agree(List<String> run) {
        boolean alike = allAlike(run);
        for (int r = 0; alike && r < ASKED_REPLICAS; r++) {
            alike = replicasAgree(r);
        }
        for (int n = 0; alike && n < model.count(0, 0); n++) {
            alike = allAlike(questions("operation(" + n, 8));
        }
        return alike;
    }

    private boolean replicasAgree(int r) {
        boolean alike = allAlike(List.of("count(0, " + r + ")", "count(1, " + r + ")", "count(2, " + r + ")",
                "count(3, " + r + ")", "count(4, " + r + ")")) && allAlike(questions("same(" + r, 2));
        for (int object = -1; alike && object < model.count(0, 0); object++) {
            alike = objectsAgree(r, object);
        }
        return alike;
    }

    private boolean objectsAgree(int r, int object) {
        String size = "size(" + r + ", " + object + ")";
        boolean alike = answersAlike(size);
        int places = Run.answer(model, size).endsWith("Exception") ? 0 : model.size(r, object) + 1;
        for (int place = 0; alike && place < places; place++) {
            String where = "(" + r + ", " + object + ", " + place;
            alike = allAlike(questions("look" + where, 3)) && answersAlike("worth" + where + ")")
                    && allAlike(questions("value" + where, 2));
        }
        return alike;
    }

    /** One for each last argument from 0 on. */
    private static List<String> questions(String begin, int last) {
        List<String> questions = new ArrayList<>();
        for (int i = 0; i <= last; i++) {
            questions.add(begin + ", " + i + ")");
        }
        return questions;
    }

    private boolean allAlike(List<String> calls) {
        for (String call : calls) {
            if (!answersAlike(call)) {
                return false;
            }
        }
        return true;
    }

    private boolean answersAlike(String call) {
        if (told.size() == Run.MOST_CALLS) {
            throw new IllegalStateException("a call too many");
        }
        told.add(call);
        String due = Run.answer(model, call);
        String got = Run.answer(desk, call);
        if (!due.equals(got)) {
            System.out.println(String.join("\n", told) + " -> " + due + ", but it answered " + got + "\n");
        }
        return due.equals(got);
    }
}
