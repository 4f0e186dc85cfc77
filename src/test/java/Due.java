import java.util.function.IntSupplier;

/** What the tests of boundary cases share: answers that are due, told with the sentence that asks for them. */
final class Due {
    private static int wrong = 0;
    private static int sentences = 0;
    private static String sentence = "";

    private Due() {
    }

    static void sentence(String told) {
        sentence = told;
        sentences++;
    }

    static void answer(String call, int got, int want) {
        if (got != want) {
            complain(call + " answered " + got + ", due is " + want);
        }
    }

    static void alike(String told, String got, String want) {
        if (!got.equals(want)) {
            complain(told + " is " + got + ", due is " + want);
        }
    }

    private static void complain(String told) {
        wrong++;
        System.out.println("\"" + sentence + "\": " + told);
    }

    static void end() {
        System.out.println(sentences + " sentences, " + wrong + " wrong answers");
        if (wrong != 0) {
            System.exit(1);
        }
    }

    static JugglingRows withRows(String... rows) {
        JugglingRows x = new JugglingRows();
        for (int row = 0; row < rows.length; row++) {
            answer("row " + rows[row], add(x, rows[row]), row);
        }
        return x;
    }

    static int add(JugglingRows x, String digits) {
        return x.row(Integer.parseInt(digits), digits.length());
    }

    static void row(JugglingRows x, int row, String want) {
        alike("row " + row, throwsOf(x, row), want);
    }

    static void refusal(JugglingRows x, int reason, int detail, int command) {
        answer("refusal(0)", x.refusal(0), reason);
        answer("refusal(1)", x.refusal(1), detail);
        answer("refusal(2)", x.refusal(2), command);
    }

    /** A call that is refused for a reason, and of which nothing but the reason is kept. */
    static void refused(JugglingRows x, String told, IntSupplier call, int reason, int detail) {
        fails(x, told, call, JugglingRows.REFUSED);
        refusal(x, reason, detail, JugglingRows.NOTHING);
    }

    static void fails(JugglingRows x, String told, IntSupplier call, int error) {
        String ahead = stand(x);
        answer(told, call.getAsInt(), error);
        alike("the stand behind " + told, stand(x), ahead);
    }

    static void line(JugglingRows x, int length, String want) {
        answer("the length of " + want, length, want.length());
        alike("the line", lineOf(x), want);
    }

    static void put(JugglingRows x, String text) {
        int length = x.account(9);
        for (int index = 0; index < text.length(); index++) {
            answer("append " + text.charAt(index), x.append(text.charAt(index)), length + index + 1);
        }
    }

    static int read(JugglingRows x, String text) {
        put(x, text);
        int got = x.read();
        answer("the characters behind read", x.account(9), 0);
        return got;
    }

    static String lineOf(JugglingRows x) {
        StringBuilder line = new StringBuilder();
        for (int code = x.sign(0); code >= 0 && line.length() < 20; code = x.sign(line.length())) {
            line.append((char) code);
        }
        return line.toString();
    }

    /** All that changes can change, and how many of them can be undone. */
    static String stand(JugglingRows x) {
        StringBuilder stand = new StringBuilder();
        int rows = x.account(0);
        for (int row = 0; row < rows; row++) {
            stand.append(throwsOf(x, row)).append(' ');
        }
        stand.append("state ").append(x.juggler(0)).append(" beats ").append(x.juggler(2)).append(" accounts");
        for (int what = 4; what <= 8; what++) {
            stand.append(' ').append(x.account(what));
        }
        return stand.append(" to undo ").append(x.account(10)).toString();
    }

    private static String throwsOf(JugglingRows x, int row) {
        StringBuilder digits = new StringBuilder();
        int many = x.rowOf(row, 0);
        for (int beat = 0; beat < many; beat++) {
            digits.append(x.throwAt(row, beat));
        }
        return digits.toString();
    }
}
