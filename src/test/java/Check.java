import java.util.ArrayList;
import java.util.Arrays;
import java.util.List;

/** Counts the answers that are not the ones due, and prints the first of them. */
final class Check {
    private static final int MOST_PRINTED = 40;

    private final List<Sentence> sentences = new ArrayList<>();
    private int asked = 0;
    private int wrong = 0;

    /** A call of the face, to be looked at for what it throws. */
    interface Call {
        void run();
    }

    /** A sentence of the document, and what was counted when its test began. */
    private record Sentence(String words, int asked, int wrong) {
    }

    /** What is asked from here on, up to the next sentence, is the test of this one. */
    void sentence(String words) {
        sentences.add(new Sentence(words, asked, wrong));
    }

    void due(long want, long got, String call, int... arguments) {
        asked++;
        if (got != want) {
            tell(call, arguments, "answered " + got + ", due is " + want);
        }
    }

    void due(boolean want, boolean got, String call, int... arguments) {
        due(want ? 1 : 0, got ? 1 : 0, call, arguments);
    }

    void refused(String call, Call run) {
        asked++;
        try {
            run.run();
            tell(call, new int[0], "threw nothing");
        } catch (RuntimeException thrown) {
            if (thrown.getClass() != IllegalArgumentException.class) {
                tell(call, new int[0], "threw " + thrown);
            }
        }
    }

    void end() {
        boolean all = asked > 0 && wrong == 0;
        for (int i = 0; i < sentences.size(); i++) {
            boolean last = i == sentences.size() - 1;
            all &= tellSentence(sentences.get(i), last ? new Sentence("", asked, wrong) : sentences.get(i + 1));
        }
        System.out.println(asked + " answers, " + wrong + " of them wrong");
        if (!all) {
            System.exit(1);
        }
    }

    /** A sentence of which nothing was asked has no test. */
    private static boolean tellSentence(Sentence begun, Sentence ended) {
        int count = ended.asked - begun.asked;
        boolean holds = count > 0 && ended.wrong == begun.wrong;
        System.out.println((holds ? "holds: " : "BROKEN: ") + begun.words + " (" + count + " answers)");
        return holds;
    }

    private void tell(String call, int[] arguments, String what) {
        wrong++;
        if (wrong <= MOST_PRINTED) {
            System.out.println(call + Arrays.toString(arguments) + " " + what);
        }
    }
}
