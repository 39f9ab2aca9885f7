import java.util.ArrayList;
import java.util.LinkedHashMap;
import java.util.List;
import java.util.Map;

/**
 * All that can be asked of a WeaveDesk behind a run of calls. A desk answers for 512 calls alone, so
 * the run is made again on as many new desks as the questions need.
 */
final class Everything {
    private final List<String> calls;
    private final Map<String, String> answers = new LinkedHashMap<>();

    private Everything(List<String> calls) {
        this.calls = List.copyOf(calls);
    }

    /** Each question with its answer. */
    static Map<String, String> after(List<String> calls) {
        Everything all = new Everything(calls);
        all.ask(List.of("count(0, 0)"));
        int made = all.number("count(0, 0)");
        all.ask(aboutReplicas());
        all.ask(aboutOperations(made));
        all.ask(aboutObjects(made));
        all.ask(all.aboutPlaces(made));
        all.askInOneGo("later ", whatComesLater(made));
        return all.answers;
    }

    private int number(String question) {
        return Integer.parseInt(answers.get(question));
    }

    private boolean hasNumber(String question) {
        return !answers.get(question).endsWith("Exception");
    }

    private void ask(List<String> questions) {
        int room = Run.MOST_CALLS - calls.size();
        if (room <= 0) {
            throw new IllegalStateException("no room for a question behind " + calls.size() + " calls");
        }
        for (int from = 0; from < questions.size(); from += room) {
            askInOneGo("", questions.subList(from, Math.min(from + room, questions.size())));
        }
    }

    private void askInOneGo(String when, List<String> questions) {
        WeaveDesk desk = new WeaveDesk();
        for (String call : calls) {
            Run.answer(desk, call);
        }
        for (String question : questions) {
            answers.put(when + question, Run.answer(desk, question));
        }
    }

    private static List<String> aboutReplicas() {
        List<String> questions = new ArrayList<>();
        for (int r = 0; r < 6; r++) {
            for (int what = 0; what <= 4; what++) {
                questions.add("count(" + what + ", " + r + ")");
            }
            for (int other = 0; other < 6; other++) {
                questions.add("same(" + r + ", " + other + ")");
            }
        }
        return questions;
    }

    private static List<String> aboutOperations(int made) {
        List<String> questions = new ArrayList<>();
        for (int n = 0; n < made; n++) {
            for (int what = 0; what <= 8; what++) {
                questions.add("operation(" + n + ", " + what + ")");
            }
        }
        return questions;
    }

    private static List<String> aboutObjects(int made) {
        List<String> questions = new ArrayList<>();
        for (int r = 0; r < 6; r++) {
            for (int object = -1; object < made; object++) {
                questions.add("size(" + r + ", " + object + ")");
            }
        }
        return questions;
    }

    private List<String> aboutPlaces(int made) {
        List<String> questions = new ArrayList<>();
        for (int r = 0; r < 6; r++) {
            for (int object = -1; object < made; object++) {
                if (hasNumber("size(" + r + ", " + object + ")")) {
                    aboutPlacesOf(r, object, questions);
                }
            }
        }
        return questions;
    }

    private void aboutPlacesOf(int r, int object, List<String> questions) {
        boolean isMap = object == -1 || number("operation(" + object + ", 5)") == WeaveDesk.MAP;
        int places = isMap ? 16 : number("size(" + r + ", " + object + ")");
        for (int place = 0; place < places; place++) {
            String where = r + ", " + object + ", " + place;
            for (int n = 0; n < 4; n++) {
                questions.add("look(" + where + ", " + n + ")");
                questions.add("value(" + where + ", " + n + ")");
            }
            questions.add("worth(" + where + ")");
        }
    }

    /** What is hidden now may be seen by calls that change and deliver. */
    private static List<String> whatComesLater(int made) {
        List<String> later = new ArrayList<>();
        for (int r = 0; r < 6; r++) {
            later.add("put(" + r + ", -1, 9, 0, " + (r + 1000) + ")");
        }
        for (int r = 0; r < 5; r++) {
            later.add("sync(" + r + ", 5)");
        }
        later.add("sync(5, 0)");
        later.add("worth(0, -1, 9)");
        later.add("look(0, -1, 9, 3)");
        later.add("operation(" + (made + 5) + ", 1)");
        return later;
    }
}
