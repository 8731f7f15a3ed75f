import java.util.ArrayList;
import java.util.List;

/**
 * All that an object answers after a run of calls, and what comes of it later. No object is called more
 * than 512 times: the run is made again, on a new one, for every few questions.
 */
final class State {
    private static final int QUESTIONS_AT_ONCE = 200;
    private static final int[] NEXT_BYTES = {0x00, 0x41, 0x80, 0xBF, 0xDC, 0xFF};

    /** Calls on one object, some 300 at most. */
    interface Run {
        void on(Counted x);

        default Run then(Run next) {
            return x -> {
                on(x);
                next.on(x);
            };
        }
    }

    private interface Question {
        int ask(Counted x);
    }

    private final List<String> answers = new ArrayList<>();

    private State() { }

    static State after(Run run) {
        State state = new State();
        state.askNow(run);
        for (int stream = 0; stream < 4; stream++) {
            state.askLater(run, stream);
        }
        return state;
    }

    /** What differs first, or nothing. */
    String difference(State other) {
        for (int k = 0; k < Math.max(answers.size(), other.answers.size()); k++) {
            String mine = k < answers.size() ? answers.get(k) : "no more";
            String its = k < other.answers.size() ? other.answers.get(k) : "no more";
            if (!mine.equals(its)) {
                return mine + " became " + its;
            }
        }
        return "";
    }

    private static Counted made(Run run) {
        Counted x = new Counted();
        run.on(x);
        return x;
    }

    private final List<String> names = new ArrayList<>();
    private final List<Question> questions = new ArrayList<>();

    private void add(String name, Question question) {
        names.add(name);
        questions.add(question);
    }

    private void askNow(Run run) {
        for (int stream = 0; stream < 4; stream++) {
            addStream(made(run), stream);
        }
        addOut(run);
        Counted x = made(run);
        for (int k = 0; k < questions.size(); k++) {
            if (k % QUESTIONS_AT_ONCE == 0) {
                x = made(run);
            }
            answers.add(names.get(k) + " = " + questions.get(k).ask(x));
        }
    }

    private void addStream(Counted x, int stream) {
        String name = "stream " + stream + ": ";
        for (int what = 0; what <= 8; what++) {
            int asked = what;
            add(name + "about " + what, y -> y.about(stream, asked));
        }
        int signs = Math.max(0, x.about(stream, 2));
        for (int i = 0; i <= signs; i++) {
            int sign = i;
            add(name + "sign " + i, y -> y.sign(stream, sign));
            for (int what = 0; what <= 2; what++) {
                int asked = what;
                add(name + "placed " + i + ", " + what, y -> y.placed(stream, sign, asked));
            }
        }
        int bytes = Math.max(0, x.about(stream, 1));
        for (int place = 0; place <= bytes; place++) {
            int asked = place;
            add(name + "at " + place, y -> y.at(stream, asked));
        }
    }

    private void addOut(Run run) {
        int count = outCount(run);
        for (int i = 0; i <= count; i++) {
            int asked = i;
            add("out " + i, y -> y.out(asked));
        }
        for (int form = 0; form < 6; form++) {
            int asked = form;
            add("check " + form, y -> y.check(asked));
        }
    }

    /** How many bytes THE OUT has, by halving. */
    private static int outCount(Run run) {
        Counted x = made(run);
        int least = 0;
        int most = 8192;
        while (least < most) {
            int middle = (least + most) / 2;
            if (x.out(middle) >= 0) {
                least = middle + 1;
            } else {
                most = middle;
            }
        }
        return least;
    }

    /** A hidden change of the form, the policy, or bytes that wait, shows when more bytes come. */
    private void askLater(Run run, int stream) {
        for (int next : NEXT_BYTES) {
            Counted x = made(run);
            String name = "stream " + stream + ", when " + Integer.toHexString(next) + " comes: ";
            answers.add(name + "put = " + x.put(stream, next, 1));
            addFacts(x, stream, name);
            answers.add(name + "end = " + x.end(stream));
            addFacts(x, stream, name);
        }
    }

    private void addFacts(Counted x, int stream, String name) {
        for (int what = 0; what <= 8; what++) {
            answers.add(name + "about " + what + " = " + x.about(stream, what));
        }
        answers.add(name + "last sign = " + x.sign(stream, x.about(stream, 2) - 1));
        answers.add(name + "its place = " + x.placed(stream, x.about(stream, 2) - 1, 0));
    }
}
