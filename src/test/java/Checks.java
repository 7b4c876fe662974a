import java.nio.charset.StandardCharsets;

/** What the tests share: texts come to the tape, answers are compared, what is wrong is printed. */
final class Checks {
    interface Call {
        long answer();
    }

    private int wrong;
    private int done;
    private int sentences;
    private String sentence = "";

    /** The answer of a call, or the name of what it throws, as the issues write it. */
    static String answerOf(Call call) {
        try {
            return Long.toString(call.answer());
        } catch (RuntimeException e) {
            return "throws." + e.getClass().getSimpleName();
        }
    }

    /** The promise and the words of the document that the checks behind this call are about. */
    void sentence(int promise, String words) {
        sentences++;
        sentence = "promise " + promise + ", '" + words + "': ";
    }

    void same(String what, String want, String got) {
        done++;
        if (!want.equals(got)) {
            wrong++;
            System.out.println(sentence + what + ": answered " + got + ", due is " + want);
        }
    }

    void due(String what, long want, Call call) {
        same(what, Long.toString(want), answerOf(call));
    }

    void refused(String what, Class<? extends RuntimeException> want, Call call) {
        same(what, "throws." + want.getSimpleName(), answerOf(call));
    }

    /** Leaves with exit code 1 if something was wrong. */
    void finish() {
        if (sentences > 0) {
            System.out.print(sentences + " sentences: ");
        }
        System.out.println(wrong == 0 ? done + " answers are as due" : wrong + " of " + done + " answers are not as due");
        if (wrong != 0) {
            System.exit(1);
        }
    }

    static void tape(ChartHouse x, String text) {
        byte[] bytes = text.getBytes(StandardCharsets.ISO_8859_1);
        for (int i = 0; i < bytes.length; i += 20) {
            x.feed(four(bytes, i), four(bytes, i + 4), four(bytes, i + 8), four(bytes, i + 12), four(bytes, i + 16));
        }
        x.end(bytes.length);
    }

    static int system(ChartHouse x, String text) {
        tape(x, text);
        return x.system();
    }

    static int chart(ChartHouse x, String text) {
        tape(x, text);
        return x.chart();
    }

    static int outside(ChartHouse x, int id, String name, int value) {
        tape(x, name);
        return x.outside(id, value);
    }

    static int variable(ChartHouse x, int id, String name) {
        tape(x, name);
        return x.variable(id);
    }

    static ChartHouse begun(String text) {
        ChartHouse x = new ChartHouse();
        int answer = system(x, text);
        if (answer < 0) {
            throw new AssertionError("fault at " + (-1 - answer) + " of " + text);
        }
        return x;
    }

    /** OUT as a text, by word. */
    static String out(ChartHouse x) {
        StringBuilder text = new StringBuilder();
        int length = x.count(1);
        for (int i = 0; i < length; i++) {
            text.append((char) (x.word(i) >>> 56));
        }
        return text.toString();
    }

    /** An event as 'kind id NAME value'. */
    static String event(ChartHouse x, int i) {
        x.event(i, 3);
        return x.event(i, 0) + " " + x.event(i, 1) + " " + out(x) + " " + x.event(i, 2);
    }

    /** All events from one on, joined by ' | '. */
    static String events(ChartHouse x, int from) {
        StringBuilder text = new StringBuilder();
        int many = x.count(6);
        for (int i = from; i < many; i++) {
            text.append(i > from ? " | " : "").append(event(x, i));
        }
        return text.toString();
    }

    /** The queue of an instance as 'NAME(value)sender', joined by blanks. */
    static String queue(ChartHouse x, int id) {
        StringBuilder text = new StringBuilder();
        int many = x.look(id, 2);
        for (int i = 0; i < many; i++) {
            x.queue(id, i, 2);
            text.append(i > 0 ? " " : "").append(out(x));
            text.append('(').append(x.queue(id, i, 0)).append(')').append(x.queue(id, i, 1));
        }
        return text.toString();
    }

    /** The row of the latest walk, joined by blanks. */
    static String row(ChartHouse x) {
        StringBuilder text = new StringBuilder();
        int many = x.count(12);
        for (int i = 0; i < many; i++) {
            text.append(i > 0 ? " " : "").append(x.act(i));
        }
        return text.toString();
    }

    static String times(int many, String part) {
        StringBuilder text = new StringBuilder();
        for (int i = 0; i < many; i++) {
            text.append(part);
        }
        return text.toString();
    }

    /** A part so many times, each # in it being the number of the time, from 0. */
    static String numbered(int many, String part) {
        StringBuilder text = new StringBuilder();
        for (int i = 0; i < many; i++) {
            text.append(part.replace("#", Integer.toString(i)));
        }
        return text.toString();
    }

    private static int four(byte[] bytes, int from) {
        int word = 0;
        for (int i = from; i < from + 4; i++) {
            word = (word << 8) | (i < bytes.length ? bytes[i] & 0xFF : 0);
        }
        return word;
    }
}
